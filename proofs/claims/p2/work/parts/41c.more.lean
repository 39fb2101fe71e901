set_option maxHeartbeats 4000000 in
set_option maxRecDepth 100000 in
theorem mo_loop {p : Program} {l : Launch} {e : Env} {s : State} {m : MethodId} {args : Array Value} {below : List Frame} {meth : Method} {c : Code} {Q : State → Prop} {D : va_G} {A : Nat → Prop} {a : Nat} {cR : ClassId} {N : Nat} {f : Nat → Int32} {n q : Nat} {cells slots : Nat} (hx : p.tables.exec = Jvm.exec) (hb : c.code = cX6_more) (hml : c.maxLocals = 4) (hown : s.vm.findClass RX6 = some m.cls) (hts : ∀ w ∈ lw_G, w.before args s = true) (hE : ev s) (hZ : zz A s s.heap) (hA : ∀ q, s.heap.size ≤ q → A q) (hb9 : 64 ≤ N ∧ N ≤ 1000000 ∧ n ≤ 1000000) (hK : va_K D vwCl [(cR, .int)] s) (kont : ∀ (H : Heap) (locs : List Loc) (ls : Array Slot), va_P D vwCl [(a, .inl (cR, N, .inl f)), (q, .inl (cR, mx n N, .inl (cpTo f N)))] H → va_D A [(a, .inl (cR, N, .inl f)), (q, .inl (cR, mx n N, .inl (cpTo f N)))] → va_S A s.heap H locs → lv_has ls 4 [(2, .ref q)] → W p l e (rmK 10 270 (mx n N / 64 - N / 64) (2 * mx n N - 2 * N)) s m args below meth c H locs cells slots Q (F0 m 41 ls [])) :
    ∀ (t i : Nat) (H : Heap) (locs : List Loc) (ls : Array Slot), i + t = N → va_P D vwCl [(a, .inl (cR, N, .inl f)), (q, .inl (cR, mx n N, .inl (cpTo f i)))] H → va_D A [(a, .inl (cR, N, .inl f)), (q, .inl (cR, mx n N, .inl (cpTo f i)))] → va_S A s.heap H locs → lv_has ls 4 [(3, .int (nI i)), (2, .ref q), (0, .ref a)] → W p l e (rmK 10 270 (mx n N / 64 - N / 64) (2 * mx n N - 2 * N)) s m args below meth c H locs cells slots Q (F0 m 23 ls []) := by
  intro t
  induction t with
  | zero =>
    intro i H locs ls hi hP hD hS hl
    refine lv_iload_n hx hb dX6_more_23 rfl (lv_at hl 0 rfl) ?_
    refine lv_aload_n hx hb dX6_more_24 rfl (lv_at hl 2 rfl) ?_
    refine va_alen hx hb hK hP 0 0 rfl rfl (v := nI N) rfl dX6_more_25 ?_
    refine lv_icmp_ge (tgt := 41) hx hb dX6_more_26 (by decide) (fun _ => ?_) (fun c9 => absurd (nI_le (by omega) (by omega)) c9)
    have ei : i = N := by omega
    subst ei
    exact kont H locs ls hP hD hS (lv_sub hl [1] rfl)
  | succ t ih =>
    intro i H locs ls hi hP hD hS hl
    refine lv_iload_n hx hb dX6_more_23 rfl (lv_at hl 0 rfl) ?_
    refine lv_aload_n hx hb dX6_more_24 rfl (lv_at hl 2 rfl) ?_
    refine va_alen hx hb hK hP 0 0 rfl rfl (v := nI N) rfl dX6_more_25 ?_
    refine lv_icmp_ge (tgt := 41) hx hb dX6_more_26 (by decide) (fun c9 => absurd c9 (nI_ge (by omega) (by omega))) (fun _ => ?_)
    refine lv_aload_n hx hb dX6_more_29 rfl (lv_at hl 1 rfl) ?_
    refine lv_iload_n hx hb dX6_more_30 rfl (lv_at hl 0 rfl) ?_
    refine lv_aload_n hx hb dX6_more_31 rfl (lv_at hl 2 rfl) ?_
    refine lv_iload_n hx hb dX6_more_32 rfl (lv_at hl 0 rfl) ?_
    refine va_iald hx hb hK hP 0 0 rfl rfl (vp_in_nI (show i < N by omega) (by omega)) dX6_more_33 ?_
    refine ck_top (y := f i) (by rw [(nI_clamp (show i < 2 ^ 31 by omega))]) ?_
    refine va_iast hx hb hK hP hD hS 1 0 rfl rfl (vp_in_nI (show i < mx n N by have := (mx_b (n := n) (N := N)).1; omega) (by unfold mx; split <;> omega)) dX6_more_34 (fun H locs hP hD hS => ?_)
    have hP : va_P D vwCl [(a, .inl (cR, N, .inl f)), (q, .inl (cR, mx n N, .inl (upd (cpTo f i) ((nI i).toNatClampNeg) (f i))))] H := hP
    have hD : va_D _ [(a, .inl (cR, N, .inl f)), (q, .inl (cR, mx n N, .inl (upd (cpTo f i) ((nI i).toNatClampNeg) (f i))))] := hD
    rw [(nI_clamp (show i < 2 ^ 31 by omega))] at hP hD
    have hP : va_P D vwCl [(a, .inl (cR, N, .inl f)), (q, .inl (cR, mx n N, .inl (upd (cpTo f i) (i) (f i))))] H := hP
    have hD : va_D _ [(a, .inl (cR, N, .inl f)), (q, .inl (cR, mx n N, .inl (upd (cpTo f i) (i) (f i))))] := hD
    obtain ⟨z_1, ez_1⟩ : ∃ z : Int32, z = (nI i) + 1 := ⟨_, rfl⟩
    refine lv_iinc (v := z_1) (lv' := [(3, .int z_1), (2, .ref q), (0, .ref a)]) hx hb dX6_more_35 hl (k := 0) rfl (by rw [ez_1]; rfl) (by decide) rfl (fun ls hl => ?_)
    refine lv_goto (tgt := 23) hx hb dX6_more_38 (by decide) ?_
    have ez : z_1 = nI (i + 1) := by rw [ez_1]; exact nI_1 i
    subst ez
    rw [cpTo_up] at hP hD
    exact ih (i + 1) H _ ls (by omega) (hP.sub [0, 1] rfl) (hD.sub [0, 1] (by decide) rfl) hS (lv_sub hl [0, 1, 2] rfl)
set_option maxHeartbeats 4000000 in
set_option maxRecDepth 100000 in
theorem c_more (l : Launch) (D : va_G) (sz : Nat) (a : Nat) (cR : ClassId) (N : Nat) (f : Nat → Int32) (n : Nat) (hb9 : 64 ≤ N ∧ N ≤ 1000000 ∧ n ≤ 1000000) : cM l yX6_more (.code yX6_more cX6_more 4 (some (.array .int))) 10 270 (mx n N / 64 - N / 64) (2 * mx n N - 2 * N) [.ref a, .int (nI n)] D [(cR, .int)] [(a, .inl (cR, N, .inl f))] sz (S := Nat × (Nat → Int32)) (fun v u => v = some (.ref u.1) ∧ ∀ i : Nat, i < N → u.2 i = f i) (fun u => [(u.1, .inl (cR, mx n N, .inl u.2))]) (fun u => [(cR, .int)]) := by
  refine cM_of (by decide) (Nat.le_of_ble_eq_true rfl) ?_
  intro p e s m below meth c ls hF hsz hP hK hD hE hZ hA hl
  obtain ⟨hx, hb, hr, hml, hown, hlocks, hnm, htb, hts⟩ := hF
  have hown : s.vm.findClass RX6 = some m.cls := hown
  have hl : lv_has ls 4 [(0, .ref a), (1, .int (nI n))] := hl
  have hS : va_S (va_A [(a, .inl (cR, N, .inl f))] sz) s.heap s.heap [] := va_S.rf
  refine lv_iload_n hx hb dX6_more_0 rfl (lv_at hl 1 rfl) ?_
  refine lv_aload_n hx hb dX6_more_1 rfl (lv_at hl 0 rfl) ?_
  refine va_alen hx hb hK hP 0 0 rfl rfl (v := nI N) rfl dX6_more_2 ?_
  refine lv_icmp_ge (tgt := 8) hx hb dX6_more_3 (by decide) (fun c_3 => ?_) (fun c_3 => ?_)
  · have hge : ¬ n < N := fun q9 => nI_ge q9 (by omega) c_3
    have hM : mx n N ≤ 2000001 := by rw [mx_up hge]; omega
    have hc9 := mx_cost hge hb9.1
    refine lv_iload_n hx hb dX6_more_8 rfl (lv_at hl 1 rfl) ?_
    refine lv_iconst (v := 1) hx hb dX6_more_9 (by decide) ?_
    refine lv_iadd hx hb dX6_more_10 ?_
    refine ck_top (y := nI (n + 1)) (nI_1 n) ?_
    refine lv_iconst (v := 2) hx hb dX6_more_11 (by decide) ?_
    refine lv_aload_n hx hb dX6_more_12 rfl (lv_at hl 0 rfl) ?_
    refine va_alen hx hb hK hP 0 0 rfl rfl (v := nI N) rfl dX6_more_13 ?_
    refine lv_imul hx hb dX6_more_14 ?_
    refine ck_top (y := nI (2 * N)) (nI_two N) ?_
    refine va_mmax hx hb (hml.trans hl.1.symm) hown (hts _ tw_4_189) (hts _ tw_xms) (hts _ tw_mmi) (hts _ tw_xmc) (Nat.le_of_ble_eq_true rfl) (Nat.le_of_ble_eq_true rfl) (Nat.zero_le _) (Nat.zero_le _) dX6_more_15 ?_
    refine ck_top (y := nI (mx n N)) (mx_max hge hb9.2.2 hb9.2.1) ?_
    refine va_newa (atype := .int) (ty := .int) (a0 := (mx n N, .inl (fun _ => 0))) hx hb (hts _ tw_1_54) rfl hK hP hD hS hA (fun _ => rfl) (nI_pos (by omega)) (nI_clamp (by omega)) (by show _ * 4 ≤ _; omega) (by show 0 + 1 ≤ _; exact hc9.1) (by show 0 + _ ≤ _; rw [Nat.zero_add]; exact hc9.2) dX6_more_18 (fun q_1 k_2 H hK hP hD hS => ?_)
    have hP : va_P D vwCl [(a, .inl (cR, N, .inl f)), (q_1, .inl (k_2, mx n N, .inl (fun _ => 0)))] H := hP
    have hD : va_D _ [(a, .inl (cR, N, .inl f)), (q_1, .inl (k_2, mx n N, .inl (fun _ => 0)))] := hD
    have hK : va_K D vwCl [(cR, .int), (k_2, .int)] s := hK
    refine lv_astore_n (lv' := [(2, .ref q_1), (0, .ref a), (1, .int (nI n))]) hx hb dX6_more_20 rfl hl (by decide) rfl (fun ls hl => ?_)
    refine lv_iconst (v := 0) hx hb dX6_more_21 (by decide) ?_
    refine lv_istore_n (lv' := [(3, .int 0), (2, .ref q_1), (0, .ref a), (1, .int (nI n))]) hx hb dX6_more_22 rfl hl (by decide) rfl (fun ls hl => ?_)
    have ek : cR = k_2 := k_same hK 0 1 rfl rfl
    subst ek
    have hK : va_K D vwCl [(cR, .int)] s := hK.sub [0] rfl
    rw [← cpTo_0 (f := f)] at hP hD
    refine mo_loop (q := q_1) hx hb hml hown hts hE hZ hA hb9 hK (fun H locs ls hP hD hS hl => ?_) N 0 H _ ls (by omega) (hP.sub [0, 1] rfl) (hD.sub [0, 1] (by decide) rfl) hS (by exact lv_sub hl [0, 1, 2] rfl)
    have hP : va_P D vwCl [(a, .inl (cR, N, .inl f)), (q_1, .inl (cR, mx n N, .inl (cpTo f N)))] H := hP
    have hD : va_D _ [(a, .inl (cR, N, .inl f)), (q_1, .inl (cR, mx n N, .inl (cpTo f N)))] := hD
    refine lv_aload_n hx hb dX6_more_41 rfl (lv_at hl 0 rfl) ?_
    exact ck_aret ⟨q_1, cpTo f N⟩ hx hb hr (Or.inr ⟨_, rfl⟩) (Or.inr ⟨_, rfl⟩) hlocks ⟨rfl, (fun i hi => cpTo_at hi)⟩ (hP.sub [1] rfl) (hK.sub [0] rfl) (hD.sub [1] (by decide) rfl) hS (by show 0 + 1 ≤ _; exact hc9.1) (by show 0 + _ ≤ _; rw [Nat.zero_add]; exact hc9.2) dX6_more_42
  · have hlt : n < N := by rcases Nat.lt_or_ge n N with q9 | q9; exact q9; exact absurd (nI_le q9 (by omega)) c_3
    have eM := mx_no hlt
    refine lv_aload_n hx hb dX6_more_6 rfl (lv_at hl 0 rfl) ?_
    have hP : va_P D vwCl [(a, .inl (cR, mx n N, .inl f))] s.heap := by rw [eM]; exact hP
    have hD : va_D (va_A [(a, .inl (cR, N, .inl f))] sz) [(a, .inl (cR, mx n N, .inl f))] := by rw [eM]; exact hD
    exact ck_aret ⟨a, f⟩ hx hb hr (Or.inr ⟨_, rfl⟩) (Or.inr ⟨_, rfl⟩) hlocks ⟨rfl, (fun i _ => rfl)⟩ (hP.sub [0] rfl) (hK.sub [0] rfl) (hD.sub [0] (by decide) rfl) hS (Nat.zero_le _) (Nat.zero_le _) dX6_more_7
