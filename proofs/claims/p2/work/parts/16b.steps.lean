set_option maxHeartbeats 4000000 in
set_option maxRecDepth 100000 in
theorem has_loop {p : Program} {l : Launch} {e : Env} {s : State} {m : MethodId} {args : Array Value} {below : List Frame} {meth : Method} {c : Code} {Q : State → Prop} {D : va_G} {A : Nat → Prop} {r rc : Nat} {cR : ClassId} {f : Nat → Int32} {n z : Int32} {s_ sc : Nat} {g : Nat → Int32} {k y : Int32} {a b : Int32} {iA iB iL : Nat} (hx : p.tables.exec = Jvm.exec) (hb : c.code = cX4_hasAt) (hml : c.maxLocals = 6) (hown : s.vm.findClass RX4 = some m.cls) (hts : ∀ w ∈ lw_G, w.before args s = true) (hE : ev s) (hZ : zz A s s.heap) (hA : ∀ q, s.heap.size ≤ q → A q) (hA1 : a = nI iA) (hB1 : b = nI iB) (hL : iA + iL ≤ 512) (hM : iB + iL ≤ 512) (hK : va_K D vwCl [(cR, .int)] s) (k1 : ∀ (H : Heap) (locs : List Loc) (ls : Array Slot),  h_all iA iB f g iL → va_P D vwCl [(r, .inr (3, [.ref rc, .int n, .int z])), (rc, .inl (cR, 512, .inl f)), (s_, .inr (3, [.ref sc, .int k, .int y])), (sc, .inl (cR, 512, .inl g))] H → va_D A [(r, .inr (3, [.ref rc, .int n, .int z])), (rc, .inl (cR, 512, .inl f)), (s_, .inr (3, [.ref sc, .int k, .int y])), (sc, .inl (cR, 512, .inl g))] → va_S A s.heap H locs → lv_has ls 6 [] → W p l e (rmK 10 270 0 0) s m args below meth c H locs 0 0 Q (F0 m 88 ls [])) (k0 : ∀ (H : Heap) (locs : List Loc) (ls : Array Slot), ¬ h_all iA iB f g iL → va_P D vwCl [(r, .inr (3, [.ref rc, .int n, .int z])), (rc, .inl (cR, 512, .inl f)), (s_, .inr (3, [.ref sc, .int k, .int y])), (sc, .inl (cR, 512, .inl g))] H → va_D A [(r, .inr (3, [.ref rc, .int n, .int z])), (rc, .inl (cR, 512, .inl f)), (s_, .inr (3, [.ref sc, .int k, .int y])), (sc, .inl (cR, 512, .inl g))] → va_S A s.heap H locs → lv_has ls 6 [] → W p l e (rmK 10 270 0 0) s m args below meth c H locs 0 0 Q (F0 m 80 ls [])) :
    ∀ (t i : Nat) (H : Heap) (locs : List Loc) (ls : Array Slot), i + t = iL → (∀ u, u < i → f (iA + u) = g (iB + u)) → va_P D vwCl [(r, .inr (3, [.ref rc, .int n, .int z])), (rc, .inl (cR, 512, .inl f)), (s_, .inr (3, [.ref sc, .int k, .int y])), (sc, .inl (cR, 512, .inl g))] H → va_D A [(r, .inr (3, [.ref rc, .int n, .int z])), (rc, .inl (cR, 512, .inl f)), (s_, .inr (3, [.ref sc, .int k, .int y])), (sc, .inl (cR, 512, .inl g))] → va_S A s.heap H locs → lv_has ls 6 [(5, .int (nI i)), (4, .int (nI iL)), (3, .int b), (2, .ref s_), (1, .int a), (0, .ref r)] → W p l e (rmK 10 270 0 0) s m args below meth c H locs 0 0 Q (F0 m 32 ls []) := by
  intro t
  induction t with
  | zero =>
    intro i H locs ls hi hu hP hD hS hl
    refine lv_iload hx hb dX4_hasAt_32 (lv_at hl 0 rfl) ?_
    refine lv_iload hx hb dX4_hasAt_34 (lv_at hl 1 rfl) ?_
    refine lv_icmp_ge (tgt := 88) hx hb dX4_hasAt_36 (by decide) (fun _ => ?_) (fun c9 => absurd (by rw [show i = iL by omega]; exact Int32.le_refl _) c9)
    exact k1 H locs ls (fun u h => hu u (by omega)) hP hD hS (lv_sub hl [] rfl)
  | succ t ih =>
    intro i H locs ls hi hu hP hD hS hl
    refine lv_iload hx hb dX4_hasAt_32 (lv_at hl 0 rfl) ?_
    refine lv_iload hx hb dX4_hasAt_34 (lv_at hl 1 rfl) ?_
    refine lv_icmp_ge (tgt := 88) hx hb dX4_hasAt_36 (by decide) (fun c9 => absurd c9 (nI_ge (by omega) (by omega))) (fun _ => ?_)
    refine lv_iload_n hx hb dX4_hasAt_39 rfl (lv_at hl 4 rfl) ?_
    refine lv_iload hx hb dX4_hasAt_40 (lv_at hl 0 rfl) ?_
    refine lv_iadd hx hb dX4_hasAt_42 ?_
    refine ck_top (y := nI (iA + i)) (by rw [hA1]; exact nI_add iA i) ?_
    refine lv_sipush (v := 512) hx hb dX4_hasAt_43 (by decide) ?_
    refine lv_icmp_ge (tgt := 88) hx hb dX4_hasAt_46 (by decide) (fun c9 => absurd c9 (by rw [show (512 : Int32) = nI 512 from rfl]; exact nI_ge (by omega) (by decide))) (fun _ => ?_)
    refine lv_iload_n hx hb dX4_hasAt_49 rfl (lv_at hl 2 rfl) ?_
    refine lv_iload hx hb dX4_hasAt_50 (lv_at hl 0 rfl) ?_
    refine lv_iadd hx hb dX4_hasAt_52 ?_
    refine ck_top (y := nI (iB + i)) (by rw [hB1]; exact nI_add iB i) ?_
    refine lv_sipush (v := 512) hx hb dX4_hasAt_53 (by decide) ?_
    refine lv_icmp_ge (tgt := 88) hx hb dX4_hasAt_56 (by decide) (fun c9 => absurd c9 (by rw [show (512 : Int32) = nI 512 from rfl]; exact nI_ge (by omega) (by decide))) (fun _ => ?_)
    refine lv_aload_n hx hb dX4_hasAt_59 rfl (lv_at hl 5 rfl) ?_
    refine va_get (ci := 3) (v := .ref rc) (C := RX4) (T := TX4) (N := 3) hx hb hts inG_X4 hown hK hP 0 rfl rfl 0 (by decide) (hts _ tw_1_61) (fun _ h9 => h9) rfl dX4_hasAt_60 ?_
    refine lv_iload_n hx hb dX4_hasAt_63 rfl (lv_at hl 4 rfl) ?_
    refine lv_iload hx hb dX4_hasAt_64 (lv_at hl 0 rfl) ?_
    refine lv_iadd hx hb dX4_hasAt_66 ?_
    refine ck_top (y := nI (iA + i)) (by rw [hA1]; exact nI_add iA i) ?_
    refine va_iald hx hb hK hP 1 0 rfl rfl (by rw [vp_in_iff, nI_toInt (by omega)]; omega) dX4_hasAt_67 ?_
    refine ck_top (y := f (iA + i)) (by rw [nI_clamp (by omega)]) ?_
    refine lv_aload_n hx hb dX4_hasAt_68 rfl (lv_at hl 3 rfl) ?_
    refine va_get (ci := 3) (v := .ref sc) (C := RX4) (T := TX4) (N := 3) hx hb hts inG_X4 hown hK hP 2 rfl rfl 0 (by decide) (hts _ tw_1_61) (fun _ h9 => h9) rfl dX4_hasAt_69 ?_
    refine lv_iload_n hx hb dX4_hasAt_72 rfl (lv_at hl 2 rfl) ?_
    refine lv_iload hx hb dX4_hasAt_73 (lv_at hl 0 rfl) ?_
    refine lv_iadd hx hb dX4_hasAt_75 ?_
    refine ck_top (y := nI (iB + i)) (by rw [hB1]; exact nI_add iB i) ?_
    refine va_iald hx hb hK hP 3 0 rfl rfl (by rw [vp_in_iff, nI_toInt (by omega)]; omega) dX4_hasAt_76 ?_
    refine ck_top (y := g (iB + i)) (by rw [nI_clamp (by omega)]) ?_
    refine lv_icmp_eq (tgt := 82) hx hb dX4_hasAt_77 (by decide) (fun c_77 => ?_) (fun c_77 => ?_)
    · obtain ⟨z_1, ez_1⟩ : ∃ z : Int32, z = (nI i) + 1 := ⟨_, rfl⟩
      refine lv_iinc (v := z_1) (lv' := [(5, .int z_1), (4, .int (nI iL)), (3, .int b), (2, .ref s_), (1, .int a), (0, .ref r)]) hx hb dX4_hasAt_82 hl (k := 0) rfl (by rw [ez_1]; rfl) (by decide) rfl (fun ls hl => ?_)
      refine lv_goto (tgt := 32) hx hb dX4_hasAt_85 (by decide) ?_
      have ez : z_1 = nI (i + 1) := by rw [ez_1]; exact nI_1 i
      subst ez
      exact ih (i + 1) H _ ls (by omega) (fun u h => if e9 : u = i then (by rw [e9]; exact c_77) else hu u (by omega)) hP hD hS (lv_sub hl [0, 1, 2, 3, 4, 5] rfl)
    · exact k0 H locs ls (fun h => c_77 (h i (by omega))) hP hD hS (lv_sub hl [] rfl)
set_option maxHeartbeats 4000000 in
set_option maxRecDepth 100000 in
theorem c_has (l : Launch) (D : va_G) (sz : Nat) (r rc : Nat) (cR : ClassId) (f : Nat → Int32) (n z : Int32) (s_ sc : Nat) (g : Nat → Int32) (k y : Int32) (a b : Int32) (iA iB : Nat) (ha : a = nI iA ∧ iA ≤ 1) (hba : b = nI iB ∧ iB ≤ 1) (hk : r_ok k) (hn : r_ok n) : cM l yX4_hasAt (.code yX4_hasAt cX4_hasAt 6 (some .boolean)) 10 270 0 0 [.ref r, .int a, .ref s_, .int b] D [(cR, .int)] [(r, .inr (3, [.ref rc, .int n, .int z])), (rc, .inl (cR, 512, .inl f)), (s_, .inr (3, [.ref sc, .int k, .int y])), (sc, .inl (cR, 512, .inl g))] sz (S := Unit) (fun v _ => v = some (.int (r_has iA iB g k f n))) (fun _ => [(r, .inr (3, [.ref rc, .int n, .int z])), (rc, .inl (cR, 512, .inl f)), (s_, .inr (3, [.ref sc, .int k, .int y])), (sc, .inl (cR, 512, .inl g))]) (fun _ => [(cR, .int)]) := by
  refine cM_of (by decide) (Nat.le_of_ble_eq_true rfl) ?_
  intro p e s m below meth c ls hF hsz hP hK hD hE hZ hA hl
  obtain ⟨hx, hb, hr, hml, hown, hlocks, hnm, htb, hts⟩ := hF
  have hown : s.vm.findClass RX4 = some m.cls := hown
  have hl : lv_has ls 6 [(0, .ref r), (1, .int a), (2, .ref s_), (3, .int b)] := hl
  have hS : va_S (va_A [(r, .inr (3, [.ref rc, .int n, .int z])), (rc, .inl (cR, 512, .inl f)), (s_, .inr (3, [.ref sc, .int k, .int y])), (sc, .inl (cR, 512, .inl g))] sz) s.heap s.heap [] := va_S.rf
  refine lv_aload_n hx hb dX4_hasAt_0 rfl (lv_at hl 2 rfl) ?_
  refine va_get (ci := 3) (v := .int k) (C := RX4) (T := TX4) (N := 3) hx hb hts inG_X4 hown hK hP 2 rfl rfl 1 (by decide) (hts _ tw_1_62) (fun _ h9 => h9) rfl dX4_hasAt_1 ?_
  refine lv_iload_n hx hb dX4_hasAt_4 rfl (lv_at hl 3 rfl) ?_
  refine lv_isub hx hb dX4_hasAt_5 ?_
  refine ck_top (y := nI (k.toNatClampNeg - iB)) (by rw [hba.1]; exact (has_len hk hn ha.2 hba.2).1) ?_
  refine lv_istore (lv' := [(4, .int (nI (k.toNatClampNeg - iB))), (0, .ref r), (1, .int a), (2, .ref s_), (3, .int b)]) hx hb dX4_hasAt_6 hl (by decide) rfl (fun ls hl => ?_)
  refine lv_iload_n hx hb dX4_hasAt_8 rfl (lv_at hl 2 rfl) ?_
  refine lv_if_lt (tgt := 27) hx hb dX4_hasAt_9 (by decide) (fun c9 => absurd c9 (by rw [ha.1]; have q := ha.2; exact nI_pos (by omega))) (fun _ => ?_)
  refine lv_iload_n hx hb dX4_hasAt_12 rfl (lv_at hl 4 rfl) ?_
  refine lv_if_lt (tgt := 27) hx hb dX4_hasAt_13 (by decide) (fun c9 => absurd c9 (by rw [hba.1]; have q := hba.2; exact nI_pos (by omega))) (fun _ => ?_)
  refine lv_iload hx hb dX4_hasAt_16 (lv_at hl 0 rfl) ?_
  refine lv_aload_n hx hb dX4_hasAt_18 rfl (lv_at hl 1 rfl) ?_
  refine va_get (ci := 3) (v := .int n) (C := RX4) (T := TX4) (N := 3) hx hb hts inG_X4 hown hK hP 0 rfl rfl 1 (by decide) (hts _ tw_1_62) (fun _ h9 => h9) rfl dX4_hasAt_19 ?_
  refine lv_iload_n hx hb dX4_hasAt_22 rfl (lv_at hl 2 rfl) ?_
  refine lv_isub hx hb dX4_hasAt_23 ?_
  refine ck_top (y := n - nI iA) (by rw [ha.1]) ?_
  refine lv_icmp_le (tgt := 29) hx hb dX4_hasAt_24 (by decide) (fun c_24 => ?_) (fun c_24 => ?_)
  · refine lv_iconst (v := 0) hx hb dX4_hasAt_29 (by decide) ?_
    refine lv_istore (lv' := [(5, .int 0), (4, .int (nI (k.toNatClampNeg - iB))), (0, .ref r), (1, .int a), (2, .ref s_), (3, .int b)]) hx hb dX4_hasAt_30 hl (by decide) rfl (fun ls hl => ?_)
    have hLM := has_L hk hn ha.2 hba.2 c_24
    refine has_loop (iL := k.toNatClampNeg - iB) hx hb hml hown hts hE hZ hA ha.1 hba.1 hLM.1 hLM.2 hK (fun H locs ls hh hP hD hS hl => ?_) (fun H locs ls hh hP hD hS hl => ?_) _ 0 _ _ ls (Nat.zero_add _) (fun u h => absurd h (Nat.not_lt_zero u)) hP hD hS (lv_sub hl [0, 1, 5, 4, 3, 2] rfl)
    · refine lv_iconst (v := 1) hx hb dX4_hasAt_88 (by decide) ?_
      exact ck_iret () hx hb hr rfl hlocks (congrArg (fun z9 => some (Value.int z9)) (show (1 : Int32) = r_has iA iB g k f n from (by unfold r_has; rw [(has_len hk hn ha.2 hba.2).1, if_pos c_24, if_pos hh]))) (hP.sub [0, 1, 2, 3] rfl) (hK.sub [0] rfl) (hD.sub [0, 1, 2, 3] (by decide) rfl) hS (by decide) (by decide) dX4_hasAt_89
    · refine lv_iconst (v := 0) hx hb dX4_hasAt_80 (by decide) ?_
      exact ck_iret () hx hb hr rfl hlocks (congrArg (fun z9 => some (Value.int z9)) (show (0 : Int32) = r_has iA iB g k f n from (by unfold r_has; rw [(has_len hk hn ha.2 hba.2).1, if_pos c_24, if_neg hh]))) (hP.sub [0, 1, 2, 3] rfl) (hK.sub [0] rfl) (hD.sub [0, 1, 2, 3] (by decide) rfl) hS (by decide) (by decide) dX4_hasAt_81
  · refine lv_iconst (v := 0) hx hb dX4_hasAt_27 (by decide) ?_
    exact ck_iret () hx hb hr rfl hlocks (congrArg (fun z9 => some (Value.int z9)) (show (0 : Int32) = r_has iA iB g k f n from (by unfold r_has; rw [(has_len hk hn ha.2 hba.2).1, if_neg c_24]))) (hP.sub [0, 1, 2, 3] rfl) (hK.sub [0] rfl) (hD.sub [0, 1, 2, 3] (by decide) rfl) hS (by decide) (by decide) dX4_hasAt_28
set_option maxHeartbeats 4000000 in
set_option maxRecDepth 100000 in
theorem c_alike (l : Launch) (D : va_G) (sz : Nat) (r rc : Nat) (cR : ClassId) (f : Nat → Int32) (n z : Int32) (s_ sc : Nat) (g : Nat → Int32) (k y : Int32) (hk : r_ok k) (hn : r_ok n) : cM l yX4_isAlike (.code yX4_isAlike cX4_isAlike 2 (some .boolean)) 12 340 0 0 [.ref r, .ref s_] D [(cR, .int)] [(r, .inr (3, [.ref rc, .int n, .int z])), (rc, .inl (cR, 512, .inl f)), (s_, .inr (3, [.ref sc, .int k, .int y])), (sc, .inl (cR, 512, .inl g))] sz (S := Unit) (fun v _ => v = some (.int (r_alike g k y f n z))) (fun _ => [(r, .inr (3, [.ref rc, .int n, .int z])), (rc, .inl (cR, 512, .inl f)), (s_, .inr (3, [.ref sc, .int k, .int y])), (sc, .inl (cR, 512, .inl g))]) (fun _ => [(cR, .int)]) := by
  refine cM_of (by decide) (Nat.le_of_ble_eq_true rfl) ?_
  intro p e s m below meth c ls hF hsz hP hK hD hE hZ hA hl
  obtain ⟨hx, hb, hr, hml, hown, hlocks, hnm, htb, hts⟩ := hF
  have hown : s.vm.findClass RX4 = some m.cls := hown
  have hl : lv_has ls 2 [(0, .ref r), (1, .ref s_)] := hl
  have hS : va_S (va_A [(r, .inr (3, [.ref rc, .int n, .int z])), (rc, .inl (cR, 512, .inl f)), (s_, .inr (3, [.ref sc, .int k, .int y])), (sc, .inl (cR, 512, .inl g))] sz) s.heap s.heap [] := va_S.rf
  refine lv_aload_n hx hb dX4_isAlike_0 rfl (lv_at hl 0 rfl) ?_
  refine va_get (ci := 3) (v := .int z) (C := RX4) (T := TX4) (N := 3) hx hb hts inG_X4 hown hK hP 0 rfl rfl 2 (by decide) (hts _ tw_1_63) (fun _ h9 => h9) rfl dX4_isAlike_1 ?_
  refine lv_if_ne (tgt := 39) hx hb dX4_isAlike_4 (by decide) (fun c_4 => ?_) (fun c_4 => ?_)
  · refine lv_iconst (v := 0) hx hb dX4_isAlike_39 (by decide) ?_
    exact ck_iret () hx hb hr rfl hlocks (congrArg (fun z9 => some (Value.int z9)) (show (0 : Int32) = r_alike g k y f n z from (by unfold r_alike; rw [if_neg c_4]))) (hP.sub [0, 1, 2, 3] rfl) (hK.sub [0] rfl) (hD.sub [0, 1, 2, 3] (by decide) rfl) hS (by decide) (by decide) dX4_isAlike_40
  · refine lv_aload_n hx hb dX4_isAlike_7 rfl (lv_at hl 1 rfl) ?_
    refine va_get (ci := 3) (v := .int y) (C := RX4) (T := TX4) (N := 3) hx hb hts inG_X4 hown hK hP 2 rfl rfl 2 (by decide) (hts _ tw_1_63) (fun _ h9 => h9) rfl dX4_isAlike_8 ?_
    refine lv_if_ne (tgt := 39) hx hb dX4_isAlike_11 (by decide) (fun c_11 => ?_) (fun c_11 => ?_)
    · refine lv_iconst (v := 0) hx hb dX4_isAlike_39 (by decide) ?_
      exact ck_iret () hx hb hr rfl hlocks (congrArg (fun z9 => some (Value.int z9)) (show (0 : Int32) = r_alike g k y f n z from (by unfold r_alike; rw [if_pos c_4, if_neg c_11]))) (hP.sub [0, 1, 2, 3] rfl) (hK.sub [0] rfl) (hD.sub [0, 1, 2, 3] (by decide) rfl) hS (by decide) (by decide) dX4_isAlike_40
    · refine lv_aload_n hx hb dX4_isAlike_14 rfl (lv_at hl 0 rfl) ?_
      refine va_get (ci := 3) (v := .int n) (C := RX4) (T := TX4) (N := 3) hx hb hts inG_X4 hown hK hP 0 rfl rfl 1 (by decide) (hts _ tw_1_62) (fun _ h9 => h9) rfl dX4_isAlike_15 ?_
      refine lv_aload_n hx hb dX4_isAlike_18 rfl (lv_at hl 1 rfl) ?_
      refine va_get (ci := 3) (v := .int k) (C := RX4) (T := TX4) (N := 3) hx hb hts inG_X4 hown hK hP 2 rfl rfl 1 (by decide) (hts _ tw_1_62) (fun _ h9 => h9) rfl dX4_isAlike_19 ?_
      refine lv_icmp_ne (tgt := 39) hx hb dX4_isAlike_22 (by decide) (fun c_22 => ?_) (fun c_22 => ?_)
      · refine lv_iconst (v := 0) hx hb dX4_isAlike_39 (by decide) ?_
        exact ck_iret () hx hb hr rfl hlocks (congrArg (fun z9 => some (Value.int z9)) (show (0 : Int32) = r_alike g k y f n z from (by unfold r_alike; rw [if_pos c_4, if_pos c_11, if_neg c_22]))) (hP.sub [0, 1, 2, 3] rfl) (hK.sub [0] rfl) (hD.sub [0, 1, 2, 3] (by decide) rfl) hS (by decide) (by decide) dX4_isAlike_40
      · refine lv_aload_n hx hb dX4_isAlike_25 rfl (lv_at hl 0 rfl) ?_
        refine lv_iconst (v := 0) hx hb dX4_isAlike_26 (by decide) ?_
        refine lv_aload_n hx hb dX4_isAlike_27 rfl (lv_at hl 1 rfl) ?_
        refine lv_iconst (v := 0) hx hb dX4_isAlike_28 (by decide) ?_
        refine ck_run (wr := []) (va_runV (C := RX4) (As := [.int 0, .ref s_, .int 0]) (rest := []) ⟨hx, hb, hml, hown, hts⟩ (c_has l D s.heap.size r rc cR f n z s_ sc g k y 0 0 0 0 (⟨nI_0.symm, by decide⟩) (⟨nI_0.symm, by decide⟩) hk hn) (cw_V (n := 3) hts tw_3_86 tw_3_88 tw_s33 tw_1_3 tw_3_89 (by decide +kernel) ⟨by decide, by decide⟩) ⟨pre.blind, va_recv (q := (RX4, TX4, 3)) hK hP (ci := 3) (q0 := 0) rfl rfl, fun U hU hW => ⟨rfl, pre.of (wc := [(r, .inr (3, [.ref rc, .int n, .int z])), (rc, .inl (cR, 512, .inl f)), (s_, .inr (3, [.ref sc, .int k, .int y])), (sc, .inl (cR, 512, .inl g))]) (tysc := [(cR, .int)]) (tk := [0]) hP hD hK hS hA hE hZ [0, 1, 2, 3] (by decide) rfl rfl rfl U hU hW⟩⟩ rfl rfl hl.1 rfl (lv_room (Nat.le_of_ble_eq_true rfl)) dX4_isAlike_29 ⟨by decide, by decide⟩) hP hD hK hS hA [0, 1, 2, 3] [] rfl rfl (by decide) (by decide) (fun v u H locs hw hP hD hK9 hS => ?_)
        have hw : v = some (.int (r_has 0 0 g k f n)) := hw
        subst hw
        have hP : va_P D vwCl [(r, .inr (3, [.ref rc, .int n, .int z])), (rc, .inl (cR, 512, .inl f)), (s_, .inr (3, [.ref sc, .int k, .int y])), (sc, .inl (cR, 512, .inl g))] H := hP
        have hD : va_D _ [(r, .inr (3, [.ref rc, .int n, .int z])), (rc, .inl (cR, 512, .inl f)), (s_, .inr (3, [.ref sc, .int k, .int y])), (sc, .inl (cR, 512, .inl g))] := hD
        refine W.eq (g2 := F0 m 32 ls [.int (r_has 0 0 g k f n)]) rfl ?_
        refine lv_if_eq (tgt := 39) hx hb dX4_isAlike_32 (by decide) (fun c_32 => ?_) (fun c_32 => ?_)
        · refine lv_iconst (v := 0) hx hb dX4_isAlike_39 (by decide) ?_
          exact ck_iret () hx hb hr rfl hlocks (congrArg (fun z9 => some (Value.int z9)) (show (0 : Int32) = r_alike g k y f n z from (by unfold r_alike; rw [if_pos c_4, if_pos c_11, if_pos c_22, if_pos c_32]))) (hP.sub [0, 1, 2, 3] rfl) (hK.sub [0] rfl) (hD.sub [0, 1, 2, 3] (by decide) rfl) hS (by decide) (by decide) dX4_isAlike_40
        · refine lv_iconst (v := 1) hx hb dX4_isAlike_35 (by decide) ?_
          refine lv_goto (tgt := 40) hx hb dX4_isAlike_36 (by decide) ?_
          exact ck_iret () hx hb hr rfl hlocks (congrArg (fun z9 => some (Value.int z9)) (show (1 : Int32) = r_alike g k y f n z from (by unfold r_alike; rw [if_pos c_4, if_pos c_11, if_pos c_22, if_neg c_32]))) (hP.sub [0, 1, 2, 3] rfl) (hK.sub [0] rfl) (hD.sub [0, 1, 2, 3] (by decide) rfl) hS (by decide) (by decide) dX4_isAlike_40
set_option maxHeartbeats 4000000 in
set_option maxRecDepth 100000 in
theorem c_others (l : Launch) (D : va_G) (sz : Nat) (r rc : Nat) (cR : ClassId) (f : Nat → Int32) (n z : Int32) (s_ sc : Nat) (g : Nat → Int32) (k y : Int32) (hn : r_ok n) (hk : r_ok k) : cM l yX4_leaveOthers (.code yX4_leaveOthers cX4_leaveOthers 4 (some .boolean)) 14 410 0 0 [.ref r, .ref s_] D [(cR, .int)] [(r, .inr (3, [.ref rc, .int n, .int z])), (rc, .inl (cR, 512, .inl f)), (s_, .inr (3, [.ref sc, .int k, .int y])), (sc, .inl (cR, 512, .inl g))] sz (S := (Nat → Int32) × Int32 × Int32) (fun v u => v = some (.int ((r_others g k y f n z).1)) ∧ (r_others g k y f n z).2 = (u.1, u.2.1, u.2.2)) (fun u => [(r, .inr (3, [.ref rc, .int u.2.1, .int u.2.2])), (rc, .inl (cR, 512, .inl u.1)), (s_, .inr (3, [.ref sc, .int k, .int y])), (sc, .inl (cR, 512, .inl g))]) (fun u => [(cR, .int)]) := by
  refine cM_of (by decide) (Nat.le_of_ble_eq_true rfl) ?_
  intro p e s m below meth c ls hF hsz hP hK hD hE hZ hA hl
  obtain ⟨hx, hb, hr, hml, hown, hlocks, hnm, htb, hts⟩ := hF
  have hown : s.vm.findClass RX4 = some m.cls := hown
  have hl : lv_has ls 4 [(0, .ref r), (1, .ref s_)] := hl
  have hS : va_S (va_A [(r, .inr (3, [.ref rc, .int n, .int z])), (rc, .inl (cR, 512, .inl f)), (s_, .inr (3, [.ref sc, .int k, .int y])), (sc, .inl (cR, 512, .inl g))] sz) s.heap s.heap [] := va_S.rf
  refine lv_aload_n hx hb dX4_leaveOthers_0 rfl (lv_at hl 0 rfl) ?_
  refine lv_aload_n hx hb dX4_leaveOthers_1 rfl (lv_at hl 1 rfl) ?_
  refine ck_run (wr := []) (va_runV (C := RX4) (As := [.ref s_]) (rest := []) ⟨hx, hb, hml, hown, hts⟩ (c_alike l D s.heap.size r rc cR f n z s_ sc g k y hk hn) (cw_V (n := 1) hts tw_3_82 tw_3_83 tw_3_84 tw_1_3 tw_3_85 (by decide +kernel) ⟨by decide, by decide⟩) ⟨pre.blind, va_recv (q := (RX4, TX4, 3)) hK hP (ci := 3) (q0 := 0) rfl rfl, fun U hU hW => ⟨rfl, pre.of (wc := [(r, .inr (3, [.ref rc, .int n, .int z])), (rc, .inl (cR, 512, .inl f)), (s_, .inr (3, [.ref sc, .int k, .int y])), (sc, .inl (cR, 512, .inl g))]) (tysc := [(cR, .int)]) (tk := [0]) hP hD hK hS hA hE hZ [0, 1, 2, 3] (by decide) rfl rfl rfl U hU hW⟩⟩ rfl rfl hl.1 rfl (lv_room (Nat.le_of_ble_eq_true rfl)) dX4_leaveOthers_2 ⟨by decide, by decide⟩) hP hD hK hS hA [0, 1, 2, 3] [] rfl rfl (by decide) (by decide) (fun v u H locs hw hP hD hK9 hS => ?_)
  have hw : v = some (.int (r_alike g k y f n z)) := hw
  subst hw
  have hP : va_P D vwCl [(r, .inr (3, [.ref rc, .int n, .int z])), (rc, .inl (cR, 512, .inl f)), (s_, .inr (3, [.ref sc, .int k, .int y])), (sc, .inl (cR, 512, .inl g))] H := hP
  have hD : va_D _ [(r, .inr (3, [.ref rc, .int n, .int z])), (rc, .inl (cR, 512, .inl f)), (s_, .inr (3, [.ref sc, .int k, .int y])), (sc, .inl (cR, 512, .inl g))] := hD
  refine W.eq (g2 := F0 m 5 ls [.int (r_alike g k y f n z)]) rfl ?_
  refine lv_if_eq (tgt := 15) hx hb dX4_leaveOthers_5 (by decide) (fun c_5 => ?_) (fun c_5 => ?_)
  · refine lv_aload_n hx hb dX4_leaveOthers_15 rfl (lv_at hl 1 rfl) ?_
    refine ck_run (wr := [(r, .inr (3, [.ref rc, .int n, .int z])), (rc, .inl (cR, 512, .inl f))]) (va_runV (C := RX4) (As := []) (rest := []) ⟨hx, hb, hml, hown, hts⟩ (c_isAnd l D H.size s_ sc cR g k y) (cw_V (n := 0) hts tw_2_178 tw_2_180 tw_s20 tw_1_3 tw_2_181 (by decide +kernel) ⟨by decide, by decide⟩) ⟨pre.blind, va_recv (q := (RX4, TX4, 3)) hK hP (ci := 3) (q0 := 2) rfl rfl, fun U hU hW => ⟨rfl, pre.of (wc := [(s_, .inr (3, [.ref sc, .int k, .int y])), (sc, .inl (cR, 512, .inl g))]) (tysc := [(cR, .int)]) (tk := [0]) hP hD hK hS hA hE hZ [2, 3] (by decide) rfl rfl rfl U hU hW⟩⟩ rfl rfl hl.1 rfl (lv_room (Nat.le_of_ble_eq_true rfl)) dX4_leaveOthers_16 ⟨by decide, by decide⟩) hP hD hK hS hA [2, 3] [0, 1] rfl rfl (by decide) (by decide) (fun v u H locs hw hP hD hK9 hS => ?_)
    have hw : v = some (.int (r_isAnd g)) := hw
    subst hw
    have hP : va_P D vwCl [(r, .inr (3, [.ref rc, .int n, .int z])), (rc, .inl (cR, 512, .inl f)), (s_, .inr (3, [.ref sc, .int k, .int y])), (sc, .inl (cR, 512, .inl g))] H := hP
    have hD : va_D _ [(r, .inr (3, [.ref rc, .int n, .int z])), (rc, .inl (cR, 512, .inl f)), (s_, .inr (3, [.ref sc, .int k, .int y])), (sc, .inl (cR, 512, .inl g))] := hD
    refine W.eq (g2 := F0 m 19 ls [.int (r_isAnd g)]) rfl ?_
    refine lv_if_eq (tgt := 26) hx hb dX4_leaveOthers_19 (by decide) (fun c_19 => ?_) (fun c_19 => ?_)
    · refine lv_iconst (v := 0) hx hb dX4_leaveOthers_26 (by decide) ?_
      refine lv_istore_n (lv' := [(2, .int 0), (0, .ref r), (1, .ref s_)]) hx hb dX4_leaveOthers_27 rfl hl (by decide) rfl (fun ls hl => ?_)
      refine lv_aload_n hx hb dX4_leaveOthers_28 rfl (lv_at hl 1 rfl) ?_
      refine ck_run (wr := [(s_, .inr (3, [.ref sc, .int k, .int y])), (sc, .inl (cR, 512, .inl g))]) (va_runV (C := RX4) (As := []) (rest := []) ⟨hx, hb, hml, hown, hts⟩ (c_isAnd l D H.size r rc cR f n z) (cw_V (n := 0) hts tw_2_178 tw_2_180 tw_s20 tw_1_3 tw_2_181 (by decide +kernel) ⟨by decide, by decide⟩) ⟨pre.blind, va_recv (q := (RX4, TX4, 3)) hK hP (ci := 3) (q0 := 0) rfl rfl, fun U hU hW => ⟨rfl, pre.of (wc := [(r, .inr (3, [.ref rc, .int n, .int z])), (rc, .inl (cR, 512, .inl f))]) (tysc := [(cR, .int)]) (tk := [0]) hP hD hK hS hA hE hZ [0, 1] (by decide) rfl rfl rfl U hU hW⟩⟩ rfl rfl hl.1 rfl (lv_room (Nat.le_of_ble_eq_true rfl)) dX4_leaveOthers_29 ⟨by decide, by decide⟩) hP hD hK hS hA [0, 1] [2, 3] rfl rfl (by decide) (by decide) (fun v u H locs hw hP hD hK9 hS => ?_)
      have hw : v = some (.int (r_isAnd f)) := hw
      subst hw
      have hP : va_P D vwCl [(s_, .inr (3, [.ref sc, .int k, .int y])), (sc, .inl (cR, 512, .inl g)), (r, .inr (3, [.ref rc, .int n, .int z])), (rc, .inl (cR, 512, .inl f))] H := hP
      have hD : va_D _ [(s_, .inr (3, [.ref sc, .int k, .int y])), (sc, .inl (cR, 512, .inl g)), (r, .inr (3, [.ref rc, .int n, .int z])), (rc, .inl (cR, 512, .inl f))] := hD
      refine W.eq (g2 := F0 m 32 ls [.int (r_isAnd f)]) rfl ?_
      refine lv_if_eq (tgt := 45) hx hb dX4_leaveOthers_32 (by decide) (fun c_32 => ?_) (fun c_32 => ?_)
      · refine lv_iconst (v := 0) hx hb dX4_leaveOthers_45 (by decide) ?_
        exact ck_iret ⟨f, n, z⟩ hx hb hr rfl hlocks ⟨(congrArg (fun z9 => some (Value.int z9)) (show (0 : Int32) = (r_others g k y f n z).1 from (by unfold r_others; rw [if_pos c_5, if_pos c_19, if_pos c_32]))), (by unfold r_others; rw [if_pos c_5, if_pos c_19, if_pos c_32] <;> first | rfl | (simp only [r_cut]))⟩ (hP.sub [2, 3, 0, 1] rfl) (hK.sub [0] rfl) (hD.sub [2, 3, 0, 1] (by decide) rfl) hS (by decide) (by decide) dX4_leaveOthers_46
      · refine lv_aload_n hx hb dX4_leaveOthers_35 rfl (lv_at hl 1 rfl) ?_
        refine lv_iconst (v := 1) hx hb dX4_leaveOthers_36 (by decide) ?_
        refine lv_aload_n hx hb dX4_leaveOthers_37 rfl (lv_at hl 2 rfl) ?_
        refine lv_iload_n hx hb dX4_leaveOthers_38 rfl (lv_at hl 0 rfl) ?_
        refine ck_run (wr := []) (va_runV (C := RX4) (As := [.int 1, .ref s_, .int 0]) (rest := []) ⟨hx, hb, hml, hown, hts⟩ (c_has l D H.size r rc cR f n z s_ sc g k y 1 0 1 0 (⟨nI_one, by decide⟩) (⟨nI_0.symm, by decide⟩) hk hn) (cw_V (n := 3) hts tw_3_86 tw_3_88 tw_s33 tw_1_3 tw_3_89 (by decide +kernel) ⟨by decide, by decide⟩) ⟨pre.blind, va_recv (q := (RX4, TX4, 3)) hK hP (ci := 3) (q0 := 2) rfl rfl, fun U hU hW => ⟨rfl, pre.of (wc := [(r, .inr (3, [.ref rc, .int n, .int z])), (rc, .inl (cR, 512, .inl f)), (s_, .inr (3, [.ref sc, .int k, .int y])), (sc, .inl (cR, 512, .inl g))]) (tysc := [(cR, .int)]) (tk := [0]) hP hD hK hS hA hE hZ [2, 3, 0, 1] (by decide) rfl rfl rfl U hU hW⟩⟩ rfl rfl hl.1 rfl (lv_room (Nat.le_of_ble_eq_true rfl)) dX4_leaveOthers_39 ⟨by decide, by decide⟩) hP hD hK hS hA [2, 3, 0, 1] [] rfl rfl (by decide) (by decide) (fun v u H locs hw hP hD hK9 hS => ?_)
        have hw : v = some (.int (r_has 1 0 g k f n)) := hw
        subst hw
        have hP : va_P D vwCl [(r, .inr (3, [.ref rc, .int n, .int z])), (rc, .inl (cR, 512, .inl f)), (s_, .inr (3, [.ref sc, .int k, .int y])), (sc, .inl (cR, 512, .inl g))] H := hP
        have hD : va_D _ [(r, .inr (3, [.ref rc, .int n, .int z])), (rc, .inl (cR, 512, .inl f)), (s_, .inr (3, [.ref sc, .int k, .int y])), (sc, .inl (cR, 512, .inl g))] := hD
        refine W.eq (g2 := F0 m 42 ls [.int (r_has 1 0 g k f n)]) rfl ?_
        refine lv_if_ne (tgt := 47) hx hb dX4_leaveOthers_42 (by decide) (fun c_42 => ?_) (fun c_42 => ?_)
        · refine lv_aload_n hx hb dX4_leaveOthers_47 rfl (lv_at hl 1 rfl) ?_
          refine va_get (ci := 3) (v := .ref rc) (C := RX4) (T := TX4) (N := 3) hx hb hts inG_X4 hown hK hP 0 rfl rfl 0 (by decide) (hts _ tw_1_61) (fun _ h9 => h9) rfl dX4_leaveOthers_48 ?_
          refine lv_iconst (v := 0) hx hb dX4_leaveOthers_51 (by decide) ?_
          refine va_iald hx hb hK hP 1 0 rfl rfl (vi (by decide)) dX4_leaveOthers_52 ?_
          refine ck_top (y := f ((0 : Int32).toNatClampNeg)) rfl ?_
          refine ck_run (wr := [(r, .inr (3, [.ref rc, .int n, .int z])), (rc, .inl (cR, 512, .inl f)), (s_, .inr (3, [.ref sc, .int k, .int y])), (sc, .inl (cR, 512, .inl g))]) (va_runS (As := [.int (f ((0 : Int32).toNatClampNeg))]) (rest := []) ⟨hx, hb, hml, hown, hts⟩ (c_parts l D H.size (f ((0 : Int32).toNatClampNeg))) (cw_S (n := 1) hts tw_2_182 tw_2_183 tw_1_3 tw_2_184 (by decide +kernel) ⟨by decide, by decide⟩) ⟨pre.blind, fun U hU hW => ⟨rfl, pre.of (wc := []) (tysc := []) (tk := []) hP hD hK hS hA hE hZ [] (by decide) rfl rfl rfl U hU hW⟩⟩ rfl rfl hl.1 rfl (lv_room (Nat.le_of_ble_eq_true rfl)) dX4_leaveOthers_53 ⟨by decide, by decide⟩) hP hD hK hS hA [] [0, 1, 2, 3] rfl rfl (by decide) (by decide) (fun v u H locs hw hP hD hK9 hS => ?_)
          have hw : v = some (.int (r_parts (f ((0 : Int32).toNatClampNeg)))) := hw
          subst hw
          have hP : va_P D vwCl [(r, .inr (3, [.ref rc, .int n, .int z])), (rc, .inl (cR, 512, .inl f)), (s_, .inr (3, [.ref sc, .int k, .int y])), (sc, .inl (cR, 512, .inl g))] H := hP
          have hD : va_D _ [(r, .inr (3, [.ref rc, .int n, .int z])), (rc, .inl (cR, 512, .inl f)), (s_, .inr (3, [.ref sc, .int k, .int y])), (sc, .inl (cR, 512, .inl g))] := hD
          refine W.eq (g2 := F0 m 56 ls [.int (r_parts (f ((0 : Int32).toNatClampNeg)))]) rfl ?_
          refine lv_aload_n hx hb dX4_leaveOthers_56 rfl (lv_at hl 2 rfl) ?_
          refine va_get (ci := 3) (v := .ref sc) (C := RX4) (T := TX4) (N := 3) hx hb hts inG_X4 hown hK hP 2 rfl rfl 0 (by decide) (hts _ tw_1_61) (fun _ h9 => h9) rfl dX4_leaveOthers_57 ?_
          refine lv_iconst (v := 0) hx hb dX4_leaveOthers_60 (by decide) ?_
          refine va_iald hx hb hK hP 3 0 rfl rfl (vi (by decide)) dX4_leaveOthers_61 ?_
          refine ck_top (y := g ((0 : Int32).toNatClampNeg)) rfl ?_
          refine ck_run (wr := [(r, .inr (3, [.ref rc, .int n, .int z])), (rc, .inl (cR, 512, .inl f)), (s_, .inr (3, [.ref sc, .int k, .int y])), (sc, .inl (cR, 512, .inl g))]) (va_runS (As := [.int (g ((0 : Int32).toNatClampNeg))]) (rest := [.int (r_parts (f ((0 : Int32).toNatClampNeg)))]) ⟨hx, hb, hml, hown, hts⟩ (c_parts l D H.size (g ((0 : Int32).toNatClampNeg))) (cw_S (n := 1) hts tw_2_182 tw_2_183 tw_1_3 tw_2_184 (by decide +kernel) ⟨by decide, by decide⟩) ⟨pre.blind, fun U hU hW => ⟨rfl, pre.of (wc := []) (tysc := []) (tk := []) hP hD hK hS hA hE hZ [] (by decide) rfl rfl rfl U hU hW⟩⟩ rfl rfl hl.1 rfl (lv_room (Nat.le_of_ble_eq_true rfl)) dX4_leaveOthers_62 ⟨by decide, by decide⟩) hP hD hK hS hA [] [0, 1, 2, 3] rfl rfl (by decide) (by decide) (fun v u H locs hw hP hD hK9 hS => ?_)
          have hw : v = some (.int (r_parts (g ((0 : Int32).toNatClampNeg)))) := hw
          subst hw
          have hP : va_P D vwCl [(r, .inr (3, [.ref rc, .int n, .int z])), (rc, .inl (cR, 512, .inl f)), (s_, .inr (3, [.ref sc, .int k, .int y])), (sc, .inl (cR, 512, .inl g))] H := hP
          have hD : va_D _ [(r, .inr (3, [.ref rc, .int n, .int z])), (rc, .inl (cR, 512, .inl f)), (s_, .inr (3, [.ref sc, .int k, .int y])), (sc, .inl (cR, 512, .inl g))] := hD
          refine W.eq (g2 := F0 m 65 ls [.int (r_parts (g ((0 : Int32).toNatClampNeg))), .int (r_parts (f ((0 : Int32).toNatClampNeg)))]) rfl ?_
          refine lv_isub hx hb dX4_leaveOthers_65 ?_
          refine ck_top (y := r_parts (f ((0 : Int32).toNatClampNeg)) - r_parts (g ((0 : Int32).toNatClampNeg))) rfl ?_
          refine lv_istore_n (lv' := [(3, .int (r_parts (f ((0 : Int32).toNatClampNeg)) - r_parts (g ((0 : Int32).toNatClampNeg)))), (2, .int 0), (0, .ref r), (1, .ref s_)]) hx hb dX4_leaveOthers_66 rfl hl (by decide) rfl (fun ls hl => ?_)
          refine lv_aload_n hx hb dX4_leaveOthers_67 rfl (lv_at hl 2 rfl) ?_
          refine lv_iconst (v := 1) hx hb dX4_leaveOthers_68 (by decide) ?_
          refine lv_aload_n hx hb dX4_leaveOthers_69 rfl (lv_at hl 3 rfl) ?_
          refine va_get (ci := 3) (v := .int k) (C := RX4) (T := TX4) (N := 3) hx hb hts inG_X4 hown hK hP 2 rfl rfl 1 (by decide) (hts _ tw_1_62) (fun _ h9 => h9) rfl dX4_leaveOthers_70 ?_
          refine lv_iadd hx hb dX4_leaveOthers_73 ?_
          refine ck_top (y := 1 + k) rfl ?_
          refine lv_iload_n hx hb dX4_leaveOthers_74 rfl (lv_at hl 1 rfl) ?_
          refine lv_isub hx hb dX4_leaveOthers_75 ?_
          refine ck_top (y := 1 + k - 0) rfl ?_
          refine ck_run (wr := [(s_, .inr (3, [.ref sc, .int k, .int y])), (sc, .inl (cR, 512, .inl g))]) (va_runV (C := RX4) (As := [.int (1 + k - 0)]) (rest := []) ⟨hx, hb, hml, hown, hts⟩ (c_drop l D H.size r rc cR f n z (1 + k - 0) hn) (cw_V (n := 1) hts tw_2_145 tw_2_147 tw_s13 tw_1_3 tw_2_148 (by decide +kernel) ⟨by decide, by decide⟩) ⟨pre.blind, va_recv (q := (RX4, TX4, 3)) hK hP (ci := 3) (q0 := 0) rfl rfl, fun U hU hW => ⟨rfl, pre.of (wc := [(r, .inr (3, [.ref rc, .int n, .int z])), (rc, .inl (cR, 512, .inl f))]) (tysc := [(cR, .int)]) (tk := [0]) hP hD hK hS hA hE hZ [0, 1] (by decide) rfl rfl rfl U hU hW⟩⟩ rfl rfl hl.1 rfl (lv_room (Nat.le_of_ble_eq_true rfl)) dX4_leaveOthers_76 ⟨by decide, by decide⟩) hP hD hK hS hA [0, 1] [2, 3] rfl rfl (by decide) (by decide) (fun v u H locs hw hP hD hK9 hS => ?_)
          obtain ⟨f1_1, n1_2, z1_3⟩ := u
          have hw : v = none ∧ r_drop (1 + k - 0) f n z = (f1_1, n1_2, z1_3) := hw
          obtain ⟨rfl, hq_4⟩ := hw
          have hP : va_P D vwCl [(s_, .inr (3, [.ref sc, .int k, .int y])), (sc, .inl (cR, 512, .inl g)), (r, .inr (3, [.ref rc, .int n1_2, .int z1_3])), (rc, .inl (cR, 512, .inl f1_1))] H := hP
          have hD : va_D _ [(s_, .inr (3, [.ref sc, .int k, .int y])), (sc, .inl (cR, 512, .inl g)), (r, .inr (3, [.ref rc, .int n1_2, .int z1_3])), (rc, .inl (cR, 512, .inl f1_1))] := hD
          refine W.eq (g2 := F0 m 79 ls []) rfl ?_
          refine lv_iload_n hx hb dX4_leaveOthers_79 rfl (lv_at hl 0 rfl) ?_
          refine lv_iconst (v := 1) hx hb dX4_leaveOthers_80 (by decide) ?_
          refine lv_icmp_le (tgt := 94) hx hb dX4_leaveOthers_81 (by decide) (fun c_81 => ?_) (fun c_81 => ?_)
          · refine lv_iconst (v := 1) hx hb dX4_leaveOthers_94 (by decide) ?_
            exact ck_iret ⟨f1_1, n1_2, z1_3⟩ hx hb hr rfl hlocks ⟨(congrArg (fun z9 => some (Value.int z9)) (show (1 : Int32) = (r_others g k y f n z).1 from (by unfold r_others; rw [if_pos c_5, if_pos c_19, if_neg c_32, if_neg c_42]))), (by unfold r_others; rw [if_pos c_5, if_pos c_19, if_neg c_32, if_neg c_42] <;> first | rfl | (simp only [r_cut, if_pos c_81, hq_4]))⟩ (hP.sub [2, 3, 0, 1] rfl) (hK.sub [0] rfl) (hD.sub [2, 3, 0, 1] (by decide) rfl) hS (by decide) (by decide) dX4_leaveOthers_95
          · refine lv_aload_n hx hb dX4_leaveOthers_84 rfl (lv_at hl 2 rfl) ?_
            refine lv_bipush (v := 7) hx hb dX4_leaveOthers_85 (by decide) ?_
            refine lv_iload_n hx hb dX4_leaveOthers_87 rfl (lv_at hl 0 rfl) ?_
            refine ck_run (wr := [(s_, .inr (3, [.ref sc, .int k, .int y])), (sc, .inl (cR, 512, .inl g)), (r, .inr (3, [.ref rc, .int n1_2, .int z1_3])), (rc, .inl (cR, 512, .inl f1_1))]) (va_runS (As := [.int 7, .int (r_parts (f ((0 : Int32).toNatClampNeg)) - r_parts (g ((0 : Int32).toNatClampNeg)))]) (rest := [.ref r]) ⟨hx, hb, hml, hown, hts⟩ (c_of l D H.size 7 (r_parts (f ((0 : Int32).toNatClampNeg)) - r_parts (g ((0 : Int32).toNatClampNeg)))) (cw_S (n := 2) hts tw_2_186 tw_2_60 tw_1_8 tw_2_61 (by decide +kernel) ⟨by decide, by decide⟩) ⟨pre.blind, fun U hU hW => ⟨rfl, pre.of (wc := []) (tysc := []) (tk := []) hP hD hK hS hA hE hZ [] (by decide) rfl rfl rfl U hU hW⟩⟩ rfl rfl hl.1 rfl (lv_room (Nat.le_of_ble_eq_true rfl)) dX4_leaveOthers_88 ⟨by decide, by decide⟩) hP hD hK hS hA [] [0, 1, 2, 3] rfl rfl (by decide) (by decide) (fun v u H locs hw hP hD hK9 hS => ?_)
            have hw : v = some (.int ((r_parts (f ((0 : Int32).toNatClampNeg)) - r_parts (g ((0 : Int32).toNatClampNeg))) <<< ((4 : Int32) &&& 31) ||| 7)) := hw
            subst hw
            have hP : va_P D vwCl [(s_, .inr (3, [.ref sc, .int k, .int y])), (sc, .inl (cR, 512, .inl g)), (r, .inr (3, [.ref rc, .int n1_2, .int z1_3])), (rc, .inl (cR, 512, .inl f1_1))] H := hP
            have hD : va_D _ [(s_, .inr (3, [.ref sc, .int k, .int y])), (sc, .inl (cR, 512, .inl g)), (r, .inr (3, [.ref rc, .int n1_2, .int z1_3])), (rc, .inl (cR, 512, .inl f1_1))] := hD
            refine W.eq (g2 := F0 m 91 ls [.int ((r_parts (f ((0 : Int32).toNatClampNeg)) - r_parts (g ((0 : Int32).toNatClampNeg))) <<< ((4 : Int32) &&& 31) ||| 7), .ref r]) rfl ?_
            refine ck_run (wr := [(s_, .inr (3, [.ref sc, .int k, .int y])), (sc, .inl (cR, 512, .inl g))]) (va_runV (C := RX4) (As := [.int ((r_parts (f ((0 : Int32).toNatClampNeg)) - r_parts (g ((0 : Int32).toNatClampNeg))) <<< ((4 : Int32) &&& 31) ||| 7)]) (rest := []) ⟨hx, hb, hml, hown, hts⟩ (c_put l D H.size r rc cR f1_1 n1_2 z1_3 ((r_parts (f ((0 : Int32).toNatClampNeg)) - r_parts (g ((0 : Int32).toNatClampNeg))) <<< ((4 : Int32) &&& 31) ||| 7) (ok_of hq_4 (r_drop_ok hn))) (cw_V (n := 1) hts tw_2_149 tw_2_151 tw_s14 tw_1_3 tw_2_152 (by decide +kernel) ⟨by decide, by decide⟩) ⟨pre.blind, va_recv (q := (RX4, TX4, 3)) hK hP (ci := 3) (q0 := 2) rfl rfl, fun U hU hW => ⟨rfl, pre.of (wc := [(r, .inr (3, [.ref rc, .int n1_2, .int z1_3])), (rc, .inl (cR, 512, .inl f1_1))]) (tysc := [(cR, .int)]) (tk := [0]) hP hD hK hS hA hE hZ [2, 3] (by decide) rfl rfl rfl U hU hW⟩⟩ rfl rfl hl.1 rfl (lv_room (Nat.le_of_ble_eq_true rfl)) dX4_leaveOthers_91 ⟨by decide, by decide⟩) hP hD hK hS hA [2, 3] [0, 1] rfl rfl (by decide) (by decide) (fun v u H locs hw hP hD hK9 hS => ?_)
            obtain ⟨f1_5, n1_6, z1_7⟩ := u
            have hw : v = none ∧ r_put ((r_parts (f ((0 : Int32).toNatClampNeg)) - r_parts (g ((0 : Int32).toNatClampNeg))) <<< ((4 : Int32) &&& 31) ||| 7) f1_1 n1_2 z1_3 = (f1_5, n1_6, z1_7) := hw
            obtain ⟨rfl, hq_8⟩ := hw
            have hP : va_P D vwCl [(s_, .inr (3, [.ref sc, .int k, .int y])), (sc, .inl (cR, 512, .inl g)), (r, .inr (3, [.ref rc, .int n1_6, .int z1_7])), (rc, .inl (cR, 512, .inl f1_5))] H := hP
            have hD : va_D _ [(s_, .inr (3, [.ref sc, .int k, .int y])), (sc, .inl (cR, 512, .inl g)), (r, .inr (3, [.ref rc, .int n1_6, .int z1_7])), (rc, .inl (cR, 512, .inl f1_5))] := hD
            refine W.eq (g2 := F0 m 94 ls []) rfl ?_
            refine lv_iconst (v := 1) hx hb dX4_leaveOthers_94 (by decide) ?_
            exact ck_iret ⟨f1_5, n1_6, z1_7⟩ hx hb hr rfl hlocks ⟨(congrArg (fun z9 => some (Value.int z9)) (show (1 : Int32) = (r_others g k y f n z).1 from (by unfold r_others; rw [if_pos c_5, if_pos c_19, if_neg c_32, if_neg c_42]))), (by unfold r_others; rw [if_pos c_5, if_pos c_19, if_neg c_32, if_neg c_42] <;> first | rfl | (simp only [r_cut, if_neg c_81, hq_4, hq_8]))⟩ (hP.sub [2, 3, 0, 1] rfl) (hK.sub [0] rfl) (hD.sub [2, 3, 0, 1] (by decide) rfl) hS (by decide) (by decide) dX4_leaveOthers_95
        · refine lv_iconst (v := 0) hx hb dX4_leaveOthers_45 (by decide) ?_
          exact ck_iret ⟨f, n, z⟩ hx hb hr rfl hlocks ⟨(congrArg (fun z9 => some (Value.int z9)) (show (0 : Int32) = (r_others g k y f n z).1 from (by unfold r_others; rw [if_pos c_5, if_pos c_19, if_neg c_32, if_pos c_42]))), (by unfold r_others; rw [if_pos c_5, if_pos c_19, if_neg c_32, if_pos c_42] <;> first | rfl | (simp only [r_cut]))⟩ (hP.sub [0, 1, 2, 3] rfl) (hK.sub [0] rfl) (hD.sub [0, 1, 2, 3] (by decide) rfl) hS (by decide) (by decide) dX4_leaveOthers_46
    · refine lv_iconst (v := 1) hx hb dX4_leaveOthers_22 (by decide) ?_
      refine lv_goto (tgt := 27) hx hb dX4_leaveOthers_23 (by decide) ?_
      refine lv_istore_n (lv' := [(2, .int 1), (0, .ref r), (1, .ref s_)]) hx hb dX4_leaveOthers_27 rfl hl (by decide) rfl (fun ls hl => ?_)
      refine lv_aload_n hx hb dX4_leaveOthers_28 rfl (lv_at hl 1 rfl) ?_
      refine ck_run (wr := [(s_, .inr (3, [.ref sc, .int k, .int y])), (sc, .inl (cR, 512, .inl g))]) (va_runV (C := RX4) (As := []) (rest := []) ⟨hx, hb, hml, hown, hts⟩ (c_isAnd l D H.size r rc cR f n z) (cw_V (n := 0) hts tw_2_178 tw_2_180 tw_s20 tw_1_3 tw_2_181 (by decide +kernel) ⟨by decide, by decide⟩) ⟨pre.blind, va_recv (q := (RX4, TX4, 3)) hK hP (ci := 3) (q0 := 0) rfl rfl, fun U hU hW => ⟨rfl, pre.of (wc := [(r, .inr (3, [.ref rc, .int n, .int z])), (rc, .inl (cR, 512, .inl f))]) (tysc := [(cR, .int)]) (tk := [0]) hP hD hK hS hA hE hZ [0, 1] (by decide) rfl rfl rfl U hU hW⟩⟩ rfl rfl hl.1 rfl (lv_room (Nat.le_of_ble_eq_true rfl)) dX4_leaveOthers_29 ⟨by decide, by decide⟩) hP hD hK hS hA [0, 1] [2, 3] rfl rfl (by decide) (by decide) (fun v u H locs hw hP hD hK9 hS => ?_)
      have hw : v = some (.int (r_isAnd f)) := hw
      subst hw
      have hP : va_P D vwCl [(s_, .inr (3, [.ref sc, .int k, .int y])), (sc, .inl (cR, 512, .inl g)), (r, .inr (3, [.ref rc, .int n, .int z])), (rc, .inl (cR, 512, .inl f))] H := hP
      have hD : va_D _ [(s_, .inr (3, [.ref sc, .int k, .int y])), (sc, .inl (cR, 512, .inl g)), (r, .inr (3, [.ref rc, .int n, .int z])), (rc, .inl (cR, 512, .inl f))] := hD
      refine W.eq (g2 := F0 m 32 ls [.int (r_isAnd f)]) rfl ?_
      refine lv_if_eq (tgt := 45) hx hb dX4_leaveOthers_32 (by decide) (fun c_32 => ?_) (fun c_32 => ?_)
      · refine lv_iconst (v := 0) hx hb dX4_leaveOthers_45 (by decide) ?_
        exact ck_iret ⟨f, n, z⟩ hx hb hr rfl hlocks ⟨(congrArg (fun z9 => some (Value.int z9)) (show (0 : Int32) = (r_others g k y f n z).1 from (by unfold r_others; rw [if_pos c_5, if_neg c_19, if_pos c_32]))), (by unfold r_others; rw [if_pos c_5, if_neg c_19, if_pos c_32] <;> first | rfl | (simp only [r_cut]))⟩ (hP.sub [2, 3, 0, 1] rfl) (hK.sub [0] rfl) (hD.sub [2, 3, 0, 1] (by decide) rfl) hS (by decide) (by decide) dX4_leaveOthers_46
      · refine lv_aload_n hx hb dX4_leaveOthers_35 rfl (lv_at hl 1 rfl) ?_
        refine lv_iconst (v := 1) hx hb dX4_leaveOthers_36 (by decide) ?_
        refine lv_aload_n hx hb dX4_leaveOthers_37 rfl (lv_at hl 2 rfl) ?_
        refine lv_iload_n hx hb dX4_leaveOthers_38 rfl (lv_at hl 0 rfl) ?_
        refine ck_run (wr := []) (va_runV (C := RX4) (As := [.int 1, .ref s_, .int 1]) (rest := []) ⟨hx, hb, hml, hown, hts⟩ (c_has l D H.size r rc cR f n z s_ sc g k y 1 1 1 1 (⟨nI_one, by decide⟩) (⟨nI_one, by decide⟩) hk hn) (cw_V (n := 3) hts tw_3_86 tw_3_88 tw_s33 tw_1_3 tw_3_89 (by decide +kernel) ⟨by decide, by decide⟩) ⟨pre.blind, va_recv (q := (RX4, TX4, 3)) hK hP (ci := 3) (q0 := 2) rfl rfl, fun U hU hW => ⟨rfl, pre.of (wc := [(r, .inr (3, [.ref rc, .int n, .int z])), (rc, .inl (cR, 512, .inl f)), (s_, .inr (3, [.ref sc, .int k, .int y])), (sc, .inl (cR, 512, .inl g))]) (tysc := [(cR, .int)]) (tk := [0]) hP hD hK hS hA hE hZ [2, 3, 0, 1] (by decide) rfl rfl rfl U hU hW⟩⟩ rfl rfl hl.1 rfl (lv_room (Nat.le_of_ble_eq_true rfl)) dX4_leaveOthers_39 ⟨by decide, by decide⟩) hP hD hK hS hA [2, 3, 0, 1] [] rfl rfl (by decide) (by decide) (fun v u H locs hw hP hD hK9 hS => ?_)
        have hw : v = some (.int (r_has 1 1 g k f n)) := hw
        subst hw
        have hP : va_P D vwCl [(r, .inr (3, [.ref rc, .int n, .int z])), (rc, .inl (cR, 512, .inl f)), (s_, .inr (3, [.ref sc, .int k, .int y])), (sc, .inl (cR, 512, .inl g))] H := hP
        have hD : va_D _ [(r, .inr (3, [.ref rc, .int n, .int z])), (rc, .inl (cR, 512, .inl f)), (s_, .inr (3, [.ref sc, .int k, .int y])), (sc, .inl (cR, 512, .inl g))] := hD
        refine W.eq (g2 := F0 m 42 ls [.int (r_has 1 1 g k f n)]) rfl ?_
        refine lv_if_ne (tgt := 47) hx hb dX4_leaveOthers_42 (by decide) (fun c_42 => ?_) (fun c_42 => ?_)
        · refine lv_aload_n hx hb dX4_leaveOthers_47 rfl (lv_at hl 1 rfl) ?_
          refine va_get (ci := 3) (v := .ref rc) (C := RX4) (T := TX4) (N := 3) hx hb hts inG_X4 hown hK hP 0 rfl rfl 0 (by decide) (hts _ tw_1_61) (fun _ h9 => h9) rfl dX4_leaveOthers_48 ?_
          refine lv_iconst (v := 0) hx hb dX4_leaveOthers_51 (by decide) ?_
          refine va_iald hx hb hK hP 1 0 rfl rfl (vi (by decide)) dX4_leaveOthers_52 ?_
          refine ck_top (y := f ((0 : Int32).toNatClampNeg)) rfl ?_
          refine ck_run (wr := [(r, .inr (3, [.ref rc, .int n, .int z])), (rc, .inl (cR, 512, .inl f)), (s_, .inr (3, [.ref sc, .int k, .int y])), (sc, .inl (cR, 512, .inl g))]) (va_runS (As := [.int (f ((0 : Int32).toNatClampNeg))]) (rest := []) ⟨hx, hb, hml, hown, hts⟩ (c_parts l D H.size (f ((0 : Int32).toNatClampNeg))) (cw_S (n := 1) hts tw_2_182 tw_2_183 tw_1_3 tw_2_184 (by decide +kernel) ⟨by decide, by decide⟩) ⟨pre.blind, fun U hU hW => ⟨rfl, pre.of (wc := []) (tysc := []) (tk := []) hP hD hK hS hA hE hZ [] (by decide) rfl rfl rfl U hU hW⟩⟩ rfl rfl hl.1 rfl (lv_room (Nat.le_of_ble_eq_true rfl)) dX4_leaveOthers_53 ⟨by decide, by decide⟩) hP hD hK hS hA [] [0, 1, 2, 3] rfl rfl (by decide) (by decide) (fun v u H locs hw hP hD hK9 hS => ?_)
          have hw : v = some (.int (r_parts (f ((0 : Int32).toNatClampNeg)))) := hw
          subst hw
          have hP : va_P D vwCl [(r, .inr (3, [.ref rc, .int n, .int z])), (rc, .inl (cR, 512, .inl f)), (s_, .inr (3, [.ref sc, .int k, .int y])), (sc, .inl (cR, 512, .inl g))] H := hP
          have hD : va_D _ [(r, .inr (3, [.ref rc, .int n, .int z])), (rc, .inl (cR, 512, .inl f)), (s_, .inr (3, [.ref sc, .int k, .int y])), (sc, .inl (cR, 512, .inl g))] := hD
          refine W.eq (g2 := F0 m 56 ls [.int (r_parts (f ((0 : Int32).toNatClampNeg)))]) rfl ?_
          refine lv_aload_n hx hb dX4_leaveOthers_56 rfl (lv_at hl 2 rfl) ?_
          refine va_get (ci := 3) (v := .ref sc) (C := RX4) (T := TX4) (N := 3) hx hb hts inG_X4 hown hK hP 2 rfl rfl 0 (by decide) (hts _ tw_1_61) (fun _ h9 => h9) rfl dX4_leaveOthers_57 ?_
          refine lv_iconst (v := 0) hx hb dX4_leaveOthers_60 (by decide) ?_
          refine va_iald hx hb hK hP 3 0 rfl rfl (vi (by decide)) dX4_leaveOthers_61 ?_
          refine ck_top (y := g ((0 : Int32).toNatClampNeg)) rfl ?_
          refine ck_run (wr := [(r, .inr (3, [.ref rc, .int n, .int z])), (rc, .inl (cR, 512, .inl f)), (s_, .inr (3, [.ref sc, .int k, .int y])), (sc, .inl (cR, 512, .inl g))]) (va_runS (As := [.int (g ((0 : Int32).toNatClampNeg))]) (rest := [.int (r_parts (f ((0 : Int32).toNatClampNeg)))]) ⟨hx, hb, hml, hown, hts⟩ (c_parts l D H.size (g ((0 : Int32).toNatClampNeg))) (cw_S (n := 1) hts tw_2_182 tw_2_183 tw_1_3 tw_2_184 (by decide +kernel) ⟨by decide, by decide⟩) ⟨pre.blind, fun U hU hW => ⟨rfl, pre.of (wc := []) (tysc := []) (tk := []) hP hD hK hS hA hE hZ [] (by decide) rfl rfl rfl U hU hW⟩⟩ rfl rfl hl.1 rfl (lv_room (Nat.le_of_ble_eq_true rfl)) dX4_leaveOthers_62 ⟨by decide, by decide⟩) hP hD hK hS hA [] [0, 1, 2, 3] rfl rfl (by decide) (by decide) (fun v u H locs hw hP hD hK9 hS => ?_)
          have hw : v = some (.int (r_parts (g ((0 : Int32).toNatClampNeg)))) := hw
          subst hw
          have hP : va_P D vwCl [(r, .inr (3, [.ref rc, .int n, .int z])), (rc, .inl (cR, 512, .inl f)), (s_, .inr (3, [.ref sc, .int k, .int y])), (sc, .inl (cR, 512, .inl g))] H := hP
          have hD : va_D _ [(r, .inr (3, [.ref rc, .int n, .int z])), (rc, .inl (cR, 512, .inl f)), (s_, .inr (3, [.ref sc, .int k, .int y])), (sc, .inl (cR, 512, .inl g))] := hD
          refine W.eq (g2 := F0 m 65 ls [.int (r_parts (g ((0 : Int32).toNatClampNeg))), .int (r_parts (f ((0 : Int32).toNatClampNeg)))]) rfl ?_
          refine lv_isub hx hb dX4_leaveOthers_65 ?_
          refine ck_top (y := r_parts (f ((0 : Int32).toNatClampNeg)) - r_parts (g ((0 : Int32).toNatClampNeg))) rfl ?_
          refine lv_istore_n (lv' := [(3, .int (r_parts (f ((0 : Int32).toNatClampNeg)) - r_parts (g ((0 : Int32).toNatClampNeg)))), (2, .int 1), (0, .ref r), (1, .ref s_)]) hx hb dX4_leaveOthers_66 rfl hl (by decide) rfl (fun ls hl => ?_)
          refine lv_aload_n hx hb dX4_leaveOthers_67 rfl (lv_at hl 2 rfl) ?_
          refine lv_iconst (v := 1) hx hb dX4_leaveOthers_68 (by decide) ?_
          refine lv_aload_n hx hb dX4_leaveOthers_69 rfl (lv_at hl 3 rfl) ?_
          refine va_get (ci := 3) (v := .int k) (C := RX4) (T := TX4) (N := 3) hx hb hts inG_X4 hown hK hP 2 rfl rfl 1 (by decide) (hts _ tw_1_62) (fun _ h9 => h9) rfl dX4_leaveOthers_70 ?_
          refine lv_iadd hx hb dX4_leaveOthers_73 ?_
          refine ck_top (y := 1 + k) rfl ?_
          refine lv_iload_n hx hb dX4_leaveOthers_74 rfl (lv_at hl 1 rfl) ?_
          refine lv_isub hx hb dX4_leaveOthers_75 ?_
          refine ck_top (y := 1 + k - 1) rfl ?_
          refine ck_run (wr := [(s_, .inr (3, [.ref sc, .int k, .int y])), (sc, .inl (cR, 512, .inl g))]) (va_runV (C := RX4) (As := [.int (1 + k - 1)]) (rest := []) ⟨hx, hb, hml, hown, hts⟩ (c_drop l D H.size r rc cR f n z (1 + k - 1) hn) (cw_V (n := 1) hts tw_2_145 tw_2_147 tw_s13 tw_1_3 tw_2_148 (by decide +kernel) ⟨by decide, by decide⟩) ⟨pre.blind, va_recv (q := (RX4, TX4, 3)) hK hP (ci := 3) (q0 := 0) rfl rfl, fun U hU hW => ⟨rfl, pre.of (wc := [(r, .inr (3, [.ref rc, .int n, .int z])), (rc, .inl (cR, 512, .inl f))]) (tysc := [(cR, .int)]) (tk := [0]) hP hD hK hS hA hE hZ [0, 1] (by decide) rfl rfl rfl U hU hW⟩⟩ rfl rfl hl.1 rfl (lv_room (Nat.le_of_ble_eq_true rfl)) dX4_leaveOthers_76 ⟨by decide, by decide⟩) hP hD hK hS hA [0, 1] [2, 3] rfl rfl (by decide) (by decide) (fun v u H locs hw hP hD hK9 hS => ?_)
          obtain ⟨f1_9, n1_10, z1_11⟩ := u
          have hw : v = none ∧ r_drop (1 + k - 1) f n z = (f1_9, n1_10, z1_11) := hw
          obtain ⟨rfl, hq_12⟩ := hw
          have hP : va_P D vwCl [(s_, .inr (3, [.ref sc, .int k, .int y])), (sc, .inl (cR, 512, .inl g)), (r, .inr (3, [.ref rc, .int n1_10, .int z1_11])), (rc, .inl (cR, 512, .inl f1_9))] H := hP
          have hD : va_D _ [(s_, .inr (3, [.ref sc, .int k, .int y])), (sc, .inl (cR, 512, .inl g)), (r, .inr (3, [.ref rc, .int n1_10, .int z1_11])), (rc, .inl (cR, 512, .inl f1_9))] := hD
          refine W.eq (g2 := F0 m 79 ls []) rfl ?_
          refine lv_iload_n hx hb dX4_leaveOthers_79 rfl (lv_at hl 0 rfl) ?_
          refine lv_iconst (v := 1) hx hb dX4_leaveOthers_80 (by decide) ?_
          refine lv_icmp_le (tgt := 94) hx hb dX4_leaveOthers_81 (by decide) (fun c_81 => ?_) (fun c_81 => ?_)
          · refine lv_iconst (v := 1) hx hb dX4_leaveOthers_94 (by decide) ?_
            exact ck_iret ⟨f1_9, n1_10, z1_11⟩ hx hb hr rfl hlocks ⟨(congrArg (fun z9 => some (Value.int z9)) (show (1 : Int32) = (r_others g k y f n z).1 from (by unfold r_others; rw [if_pos c_5, if_neg c_19, if_neg c_32, if_neg c_42]))), (by unfold r_others; rw [if_pos c_5, if_neg c_19, if_neg c_32, if_neg c_42] <;> first | rfl | (simp only [r_cut, if_pos c_81, hq_12]))⟩ (hP.sub [2, 3, 0, 1] rfl) (hK.sub [0] rfl) (hD.sub [2, 3, 0, 1] (by decide) rfl) hS (by decide) (by decide) dX4_leaveOthers_95
          · refine lv_aload_n hx hb dX4_leaveOthers_84 rfl (lv_at hl 2 rfl) ?_
            refine lv_bipush (v := 7) hx hb dX4_leaveOthers_85 (by decide) ?_
            refine lv_iload_n hx hb dX4_leaveOthers_87 rfl (lv_at hl 0 rfl) ?_
            refine ck_run (wr := [(s_, .inr (3, [.ref sc, .int k, .int y])), (sc, .inl (cR, 512, .inl g)), (r, .inr (3, [.ref rc, .int n1_10, .int z1_11])), (rc, .inl (cR, 512, .inl f1_9))]) (va_runS (As := [.int 7, .int (r_parts (f ((0 : Int32).toNatClampNeg)) - r_parts (g ((0 : Int32).toNatClampNeg)))]) (rest := [.ref r]) ⟨hx, hb, hml, hown, hts⟩ (c_of l D H.size 7 (r_parts (f ((0 : Int32).toNatClampNeg)) - r_parts (g ((0 : Int32).toNatClampNeg)))) (cw_S (n := 2) hts tw_2_186 tw_2_60 tw_1_8 tw_2_61 (by decide +kernel) ⟨by decide, by decide⟩) ⟨pre.blind, fun U hU hW => ⟨rfl, pre.of (wc := []) (tysc := []) (tk := []) hP hD hK hS hA hE hZ [] (by decide) rfl rfl rfl U hU hW⟩⟩ rfl rfl hl.1 rfl (lv_room (Nat.le_of_ble_eq_true rfl)) dX4_leaveOthers_88 ⟨by decide, by decide⟩) hP hD hK hS hA [] [0, 1, 2, 3] rfl rfl (by decide) (by decide) (fun v u H locs hw hP hD hK9 hS => ?_)
            have hw : v = some (.int ((r_parts (f ((0 : Int32).toNatClampNeg)) - r_parts (g ((0 : Int32).toNatClampNeg))) <<< ((4 : Int32) &&& 31) ||| 7)) := hw
            subst hw
            have hP : va_P D vwCl [(s_, .inr (3, [.ref sc, .int k, .int y])), (sc, .inl (cR, 512, .inl g)), (r, .inr (3, [.ref rc, .int n1_10, .int z1_11])), (rc, .inl (cR, 512, .inl f1_9))] H := hP
            have hD : va_D _ [(s_, .inr (3, [.ref sc, .int k, .int y])), (sc, .inl (cR, 512, .inl g)), (r, .inr (3, [.ref rc, .int n1_10, .int z1_11])), (rc, .inl (cR, 512, .inl f1_9))] := hD
            refine W.eq (g2 := F0 m 91 ls [.int ((r_parts (f ((0 : Int32).toNatClampNeg)) - r_parts (g ((0 : Int32).toNatClampNeg))) <<< ((4 : Int32) &&& 31) ||| 7), .ref r]) rfl ?_
            refine ck_run (wr := [(s_, .inr (3, [.ref sc, .int k, .int y])), (sc, .inl (cR, 512, .inl g))]) (va_runV (C := RX4) (As := [.int ((r_parts (f ((0 : Int32).toNatClampNeg)) - r_parts (g ((0 : Int32).toNatClampNeg))) <<< ((4 : Int32) &&& 31) ||| 7)]) (rest := []) ⟨hx, hb, hml, hown, hts⟩ (c_put l D H.size r rc cR f1_9 n1_10 z1_11 ((r_parts (f ((0 : Int32).toNatClampNeg)) - r_parts (g ((0 : Int32).toNatClampNeg))) <<< ((4 : Int32) &&& 31) ||| 7) (ok_of hq_12 (r_drop_ok hn))) (cw_V (n := 1) hts tw_2_149 tw_2_151 tw_s14 tw_1_3 tw_2_152 (by decide +kernel) ⟨by decide, by decide⟩) ⟨pre.blind, va_recv (q := (RX4, TX4, 3)) hK hP (ci := 3) (q0 := 2) rfl rfl, fun U hU hW => ⟨rfl, pre.of (wc := [(r, .inr (3, [.ref rc, .int n1_10, .int z1_11])), (rc, .inl (cR, 512, .inl f1_9))]) (tysc := [(cR, .int)]) (tk := [0]) hP hD hK hS hA hE hZ [2, 3] (by decide) rfl rfl rfl U hU hW⟩⟩ rfl rfl hl.1 rfl (lv_room (Nat.le_of_ble_eq_true rfl)) dX4_leaveOthers_91 ⟨by decide, by decide⟩) hP hD hK hS hA [2, 3] [0, 1] rfl rfl (by decide) (by decide) (fun v u H locs hw hP hD hK9 hS => ?_)
            obtain ⟨f1_13, n1_14, z1_15⟩ := u
            have hw : v = none ∧ r_put ((r_parts (f ((0 : Int32).toNatClampNeg)) - r_parts (g ((0 : Int32).toNatClampNeg))) <<< ((4 : Int32) &&& 31) ||| 7) f1_9 n1_10 z1_11 = (f1_13, n1_14, z1_15) := hw
            obtain ⟨rfl, hq_16⟩ := hw
            have hP : va_P D vwCl [(s_, .inr (3, [.ref sc, .int k, .int y])), (sc, .inl (cR, 512, .inl g)), (r, .inr (3, [.ref rc, .int n1_14, .int z1_15])), (rc, .inl (cR, 512, .inl f1_13))] H := hP
            have hD : va_D _ [(s_, .inr (3, [.ref sc, .int k, .int y])), (sc, .inl (cR, 512, .inl g)), (r, .inr (3, [.ref rc, .int n1_14, .int z1_15])), (rc, .inl (cR, 512, .inl f1_13))] := hD
            refine W.eq (g2 := F0 m 94 ls []) rfl ?_
            refine lv_iconst (v := 1) hx hb dX4_leaveOthers_94 (by decide) ?_
            exact ck_iret ⟨f1_13, n1_14, z1_15⟩ hx hb hr rfl hlocks ⟨(congrArg (fun z9 => some (Value.int z9)) (show (1 : Int32) = (r_others g k y f n z).1 from (by unfold r_others; rw [if_pos c_5, if_neg c_19, if_neg c_32, if_neg c_42]))), (by unfold r_others; rw [if_pos c_5, if_neg c_19, if_neg c_32, if_neg c_42] <;> first | rfl | (simp only [r_cut, if_neg c_81, hq_12, hq_16]))⟩ (hP.sub [2, 3, 0, 1] rfl) (hK.sub [0] rfl) (hD.sub [2, 3, 0, 1] (by decide) rfl) hS (by decide) (by decide) dX4_leaveOthers_95
        · refine lv_iconst (v := 0) hx hb dX4_leaveOthers_45 (by decide) ?_
          exact ck_iret ⟨f, n, z⟩ hx hb hr rfl hlocks ⟨(congrArg (fun z9 => some (Value.int z9)) (show (0 : Int32) = (r_others g k y f n z).1 from (by unfold r_others; rw [if_pos c_5, if_neg c_19, if_neg c_32, if_pos c_42]))), (by unfold r_others; rw [if_pos c_5, if_neg c_19, if_neg c_32, if_pos c_42] <;> first | rfl | (simp only [r_cut]))⟩ (hP.sub [0, 1, 2, 3] rfl) (hK.sub [0] rfl) (hD.sub [0, 1, 2, 3] (by decide) rfl) hS (by decide) (by decide) dX4_leaveOthers_46
  · refine lv_aload_n hx hb dX4_leaveOthers_8 rfl (lv_at hl 0 rfl) ?_
    refine lv_iconst (v := 3) hx hb dX4_leaveOthers_9 (by decide) ?_
    refine ck_run (wr := [(s_, .inr (3, [.ref sc, .int k, .int y])), (sc, .inl (cR, 512, .inl g))]) (va_runV (C := RX4) (As := [.int 3]) (rest := []) ⟨hx, hb, hml, hown, hts⟩ (r_setOnly l D H.size r rc cR f n z 3) (cw_V (n := 1) hts tw_2_135 tw_2_63 tw_2_64 tw_1_3 tw_2_65 (by decide +kernel) ⟨by decide, by decide⟩) ⟨pre.blind, va_recv (q := (RX4, TX4, 3)) hK hP (ci := 3) (q0 := 0) rfl rfl, fun U hU hW => ⟨rfl, pre.of (wc := [(r, .inr (3, [.ref rc, .int n, .int z])), (rc, .inl (cR, 512, .inl f))]) (tysc := [(cR, .int)]) (tk := [0]) hP hD hK hS hA hE hZ [0, 1] (by decide) rfl rfl rfl U hU hW⟩⟩ rfl rfl hl.1 rfl (lv_room (Nat.le_of_ble_eq_true rfl)) dX4_leaveOthers_10 ⟨by decide, by decide⟩) hP hD hK hS hA [0, 1] [2, 3] rfl rfl (by decide) (by decide) (fun v u H locs hw hP hD hK9 hS => ?_)
    have hw : v = none := hw
    subst hw
    have hP : va_P D vwCl [(s_, .inr (3, [.ref sc, .int k, .int y])), (sc, .inl (cR, 512, .inl g)), (r, .inr (3, [.ref rc, .int 1, .int 0])), (rc, .inl (cR, 512, .inl (upd f ((0 : Int32).toNatClampNeg) 3)))] H := hP
    have hD : va_D _ [(s_, .inr (3, [.ref sc, .int k, .int y])), (sc, .inl (cR, 512, .inl g)), (r, .inr (3, [.ref rc, .int 1, .int 0])), (rc, .inl (cR, 512, .inl (upd f ((0 : Int32).toNatClampNeg) 3)))] := hD
    refine W.eq (g2 := F0 m 13 ls []) rfl ?_
    refine lv_iconst (v := 1) hx hb dX4_leaveOthers_13 (by decide) ?_
    exact ck_iret ⟨upd f ((0 : Int32).toNatClampNeg) 3, 1, 0⟩ hx hb hr rfl hlocks ⟨(congrArg (fun z9 => some (Value.int z9)) (show (1 : Int32) = (r_others g k y f n z).1 from (by unfold r_others; rw [if_neg c_5]))), (by unfold r_others; rw [if_neg c_5] <;> first | rfl | (simp only [r_cut]))⟩ (hP.sub [2, 3, 0, 1] rfl) (hK.sub [0] rfl) (hD.sub [2, 3, 0, 1] (by decide) rfl) hS (by decide) (by decide) dX4_leaveOthers_14
set_option maxHeartbeats 4000000 in
set_option maxRecDepth 100000 in
theorem c_step (l : Launch) (D : va_G) (sz : Nat) (r rc : Nat) (cR : ClassId) (f : Nat → Int32) (n z : Int32) (ki a : Int32) (s_ sc : Nat) (g : Nat → Int32) (k y : Int32) (hn : r_ok n) (hk : r_ok k) : cM l yX4_makeStep (.code yX4_makeStep cX4_makeStep 6 (some .boolean)) 16 480 0 0 [.ref r, .int ki, .int a, .ref s_] D [(cR, .int)] [(r, .inr (3, [.ref rc, .int n, .int z])), (rc, .inl (cR, 512, .inl f)), (s_, .inr (3, [.ref sc, .int k, .int y])), (sc, .inl (cR, 512, .inl g))] sz (S := (Nat → Int32) × Int32 × Int32) (fun v u => v = some (.int ((r_step ki a g k y f n z).1)) ∧ (r_step ki a g k y f n z).2 = (u.1, u.2.1, u.2.2)) (fun u => [(r, .inr (3, [.ref rc, .int u.2.1, .int u.2.2])), (rc, .inl (cR, 512, .inl u.1)), (s_, .inr (3, [.ref sc, .int k, .int y])), (sc, .inl (cR, 512, .inl g))]) (fun u => [(cR, .int)]) := by
  refine cM_of (by decide) (Nat.le_of_ble_eq_true rfl) ?_
  intro p e s m below meth c ls hF hsz hP hK hD hE hZ hA hl
  obtain ⟨hx, hb, hr, hml, hown, hlocks, hnm, htb, hts⟩ := hF
  have hown : s.vm.findClass RX4 = some m.cls := hown
  have hl : lv_has ls 6 [(0, .ref r), (1, .int ki), (2, .int a), (3, .ref s_)] := hl
  have hS : va_S (va_A [(r, .inr (3, [.ref rc, .int n, .int z])), (rc, .inl (cR, 512, .inl f)), (s_, .inr (3, [.ref sc, .int k, .int y])), (sc, .inl (cR, 512, .inl g))] sz) s.heap s.heap [] := va_S.rf
  refine lv_iload_n hx hb dX4_makeStep_0 rfl (lv_at hl 1 rfl) ?_
  refine lv_iconst (v := 3) hx hb dX4_makeStep_1 (by decide) ?_
  refine lv_icmp_eq (tgt := 15) hx hb dX4_makeStep_2 (by decide) (fun c_2 => ?_) (fun c_2 => ?_)
  · refine lv_iconst (v := 1) hx hb dX4_makeStep_15 (by decide) ?_
    refine lv_goto (tgt := 20) hx hb dX4_makeStep_16 (by decide) ?_
    refine lv_istore (lv' := [(4, .int 1), (0, .ref r), (1, .int ki), (2, .int a), (3, .ref s_)]) hx hb dX4_makeStep_20 hl (by decide) rfl (fun ls hl => ?_)
    refine lv_iload hx hb dX4_makeStep_22 (lv_at hl 0 rfl) ?_
    refine lv_if_eq (tgt := 31) hx hb dX4_makeStep_24 (by decide) (fun c9 => absurd c9 (by decide)) (fun _ => ?_)
    refine lv_aload_n hx hb dX4_makeStep_27 rfl (lv_at hl 1 rfl) ?_
    refine ck_run (wr := [(s_, .inr (3, [.ref sc, .int k, .int y])), (sc, .inl (cR, 512, .inl g))]) (va_runV (C := RX4) (As := []) (rest := []) ⟨hx, hb, hml, hown, hts⟩ (c_neg l D s.heap.size r rc cR f n z hn) (cw_V (n := 0) hts tw_2_198 tw_2_142 tw_2_143 tw_1_3 tw_2_144 (by decide +kernel) ⟨by decide, by decide⟩) ⟨pre.blind, va_recv (q := (RX4, TX4, 3)) hK hP (ci := 3) (q0 := 0) rfl rfl, fun U hU hW => ⟨rfl, pre.of (wc := [(r, .inr (3, [.ref rc, .int n, .int z])), (rc, .inl (cR, 512, .inl f))]) (tysc := [(cR, .int)]) (tk := [0]) hP hD hK hS hA hE hZ [0, 1] (by decide) rfl rfl rfl U hU hW⟩⟩ rfl rfl hl.1 rfl (lv_room (Nat.le_of_ble_eq_true rfl)) dX4_makeStep_28 ⟨by decide, by decide⟩) hP hD hK hS hA [0, 1] [2, 3] rfl rfl (by decide) (by decide) (fun v u H locs hw hP hD hK9 hS => ?_)
    obtain ⟨f1_1, n1_2, z1_3⟩ := u
    have hw : v = none ∧ r_neg f n z = (f1_1, n1_2, z1_3) := hw
    obtain ⟨rfl, hq_4⟩ := hw
    have hP : va_P D vwCl [(s_, .inr (3, [.ref sc, .int k, .int y])), (sc, .inl (cR, 512, .inl g)), (r, .inr (3, [.ref rc, .int n1_2, .int z1_3])), (rc, .inl (cR, 512, .inl f1_1))] H := hP
    have hD : va_D _ [(s_, .inr (3, [.ref sc, .int k, .int y])), (sc, .inl (cR, 512, .inl g)), (r, .inr (3, [.ref rc, .int n1_2, .int z1_3])), (rc, .inl (cR, 512, .inl f1_1))] := hD
    refine W.eq (g2 := F0 m 31 ls []) rfl ?_
    refine lv_iload_n hx hb dX4_makeStep_31 rfl (lv_at hl 2 rfl) ?_
    refine lv_if_eq (tgt := 40) hx hb dX4_makeStep_32 (by decide) (fun c9 => absurd c9 (by rw [c_2]; decide)) (fun _ => ?_)
    refine lv_iload_n hx hb dX4_makeStep_35 rfl (lv_at hl 2 rfl) ?_
    refine lv_iconst (v := 3) hx hb dX4_makeStep_36 (by decide) ?_
    refine lv_icmp_ne (tgt := 48) hx hb dX4_makeStep_37 (by decide) (fun c9 => absurd c_2 c9) (fun _ => ?_)
    refine lv_aload_n hx hb dX4_makeStep_40 rfl (lv_at hl 1 rfl) ?_
    refine lv_iload_n hx hb dX4_makeStep_41 rfl (lv_at hl 3 rfl) ?_
    refine ck_run (wr := [(s_, .inr (3, [.ref sc, .int k, .int y])), (sc, .inl (cR, 512, .inl g))]) (va_runV (C := RX4) (As := [.int a]) (rest := []) ⟨hx, hb, hml, hown, hts⟩ (c_body l D H.size r rc cR f1_1 n1_2 z1_3 a (ok_of hq_4 (r_neg_ok hn))) (cw_V (n := 1) hts tw_3_74 tw_3_76 tw_s31 tw_1_3 tw_3_77 (by decide +kernel) ⟨by decide, by decide⟩) ⟨pre.blind, va_recv (q := (RX4, TX4, 3)) hK hP (ci := 3) (q0 := 2) rfl rfl, fun U hU hW => ⟨rfl, pre.of (wc := [(r, .inr (3, [.ref rc, .int n1_2, .int z1_3])), (rc, .inl (cR, 512, .inl f1_1))]) (tysc := [(cR, .int)]) (tk := [0]) hP hD hK hS hA hE hZ [2, 3] (by decide) rfl rfl rfl U hU hW⟩⟩ rfl rfl hl.1 rfl (lv_room (Nat.le_of_ble_eq_true rfl)) dX4_makeStep_42 ⟨by decide, by decide⟩) hP hD hK hS hA [2, 3] [0, 1] rfl rfl (by decide) (by decide) (fun v u H locs hw hP hD hK9 hS => ?_)
    obtain ⟨f1_5, n1_6, z1_7⟩ := u
    have hw : v = some (.int (r_isAll f1_1)) ∧ r_body a f1_1 n1_2 z1_3 = (f1_5, n1_6, z1_7) := hw
    obtain ⟨rfl, hq_8⟩ := hw
    have hP : va_P D vwCl [(s_, .inr (3, [.ref sc, .int k, .int y])), (sc, .inl (cR, 512, .inl g)), (r, .inr (3, [.ref rc, .int n1_6, .int z1_7])), (rc, .inl (cR, 512, .inl f1_5))] H := hP
    have hD : va_D _ [(s_, .inr (3, [.ref sc, .int k, .int y])), (sc, .inl (cR, 512, .inl g)), (r, .inr (3, [.ref rc, .int n1_6, .int z1_7])), (rc, .inl (cR, 512, .inl f1_5))] := hD
    refine W.eq (g2 := F0 m 45 ls [.int (r_isAll f1_1)]) rfl ?_
    refine lv_goto (tgt := 53) hx hb dX4_makeStep_45 (by decide) ?_
    refine lv_istore (lv' := [(5, .int (r_isAll f1_1)), (4, .int 1), (0, .ref r), (1, .int ki), (2, .int a), (3, .ref s_)]) hx hb dX4_makeStep_53 hl (by decide) rfl (fun ls hl => ?_)
    refine lv_iload hx hb dX4_makeStep_55 (lv_at hl 1 rfl) ?_
    refine lv_if_eq (tgt := 64) hx hb dX4_makeStep_57 (by decide) (fun c9 => absurd c9 (by decide)) (fun _ => ?_)
    refine lv_aload_n hx hb dX4_makeStep_60 rfl (lv_at hl 2 rfl) ?_
    refine ck_run (wr := [(s_, .inr (3, [.ref sc, .int k, .int y])), (sc, .inl (cR, 512, .inl g))]) (va_runV (C := RX4) (As := []) (rest := []) ⟨hx, hb, hml, hown, hts⟩ (c_neg l D H.size r rc cR f1_5 n1_6 z1_7 (ok_of hq_8 (r_body_ok (ok_of hq_4 (r_neg_ok hn))))) (cw_V (n := 0) hts tw_2_198 tw_2_142 tw_2_143 tw_1_3 tw_2_144 (by decide +kernel) ⟨by decide, by decide⟩) ⟨pre.blind, va_recv (q := (RX4, TX4, 3)) hK hP (ci := 3) (q0 := 2) rfl rfl, fun U hU hW => ⟨rfl, pre.of (wc := [(r, .inr (3, [.ref rc, .int n1_6, .int z1_7])), (rc, .inl (cR, 512, .inl f1_5))]) (tysc := [(cR, .int)]) (tk := [0]) hP hD hK hS hA hE hZ [2, 3] (by decide) rfl rfl rfl U hU hW⟩⟩ rfl rfl hl.1 rfl (lv_room (Nat.le_of_ble_eq_true rfl)) dX4_makeStep_61 ⟨by decide, by decide⟩) hP hD hK hS hA [2, 3] [0, 1] rfl rfl (by decide) (by decide) (fun v u H locs hw hP hD hK9 hS => ?_)
    obtain ⟨f1_9, n1_10, z1_11⟩ := u
    have hw : v = none ∧ r_neg f1_5 n1_6 z1_7 = (f1_9, n1_10, z1_11) := hw
    obtain ⟨rfl, hq_12⟩ := hw
    have hP : va_P D vwCl [(s_, .inr (3, [.ref sc, .int k, .int y])), (sc, .inl (cR, 512, .inl g)), (r, .inr (3, [.ref rc, .int n1_10, .int z1_11])), (rc, .inl (cR, 512, .inl f1_9))] H := hP
    have hD : va_D _ [(s_, .inr (3, [.ref sc, .int k, .int y])), (sc, .inl (cR, 512, .inl g)), (r, .inr (3, [.ref rc, .int n1_10, .int z1_11])), (rc, .inl (cR, 512, .inl f1_9))] := hD
    refine W.eq (g2 := F0 m 64 ls []) rfl ?_
    refine lv_iload hx hb dX4_makeStep_64 (lv_at hl 0 rfl) ?_
    exact ck_iret ⟨f1_9, n1_10, z1_11⟩ hx hb hr (nb (by first | exact r_isAll_01 | exact r_others_01)) hlocks ⟨(congrArg (fun z9 => some (Value.int z9)) (show (r_isAll f1_1 : Int32) = (r_step ki a g k y f n z).1 from (by unfold r_step; rw [if_neg (show ¬ r_turn ki = 0 from by unfold r_turn; rw [if_pos c_2]; try decide)]; simp only [r_inner, if_neg (show ¬ ki = 0 from by rw [c_2]; decide), if_pos c_2, hq_4, hq_8, hq_12]))), (by unfold r_step; rw [if_neg (show ¬ r_turn ki = 0 from by unfold r_turn; rw [if_pos c_2]; try decide)]; simp only [r_inner, if_neg (show ¬ ki = 0 from by rw [c_2]; decide), if_pos c_2, hq_4, hq_8, hq_12])⟩ (hP.sub [2, 3, 0, 1] rfl) (hK.sub [0] rfl) (hD.sub [2, 3, 0, 1] (by decide) rfl) hS (by decide) (by decide) dX4_makeStep_66
  · refine lv_iload_n hx hb dX4_makeStep_5 rfl (lv_at hl 1 rfl) ?_
    refine lv_iconst (v := 1) hx hb dX4_makeStep_6 (by decide) ?_
    refine lv_icmp_eq (tgt := 15) hx hb dX4_makeStep_7 (by decide) (fun c_7 => ?_) (fun c_7 => ?_)
    · refine lv_iconst (v := 1) hx hb dX4_makeStep_15 (by decide) ?_
      refine lv_goto (tgt := 20) hx hb dX4_makeStep_16 (by decide) ?_
      refine lv_istore (lv' := [(4, .int 1), (0, .ref r), (1, .int ki), (2, .int a), (3, .ref s_)]) hx hb dX4_makeStep_20 hl (by decide) rfl (fun ls hl => ?_)
      refine lv_iload hx hb dX4_makeStep_22 (lv_at hl 0 rfl) ?_
      refine lv_if_eq (tgt := 31) hx hb dX4_makeStep_24 (by decide) (fun c9 => absurd c9 (by decide)) (fun _ => ?_)
      refine lv_aload_n hx hb dX4_makeStep_27 rfl (lv_at hl 1 rfl) ?_
      refine ck_run (wr := [(s_, .inr (3, [.ref sc, .int k, .int y])), (sc, .inl (cR, 512, .inl g))]) (va_runV (C := RX4) (As := []) (rest := []) ⟨hx, hb, hml, hown, hts⟩ (c_neg l D s.heap.size r rc cR f n z hn) (cw_V (n := 0) hts tw_2_198 tw_2_142 tw_2_143 tw_1_3 tw_2_144 (by decide +kernel) ⟨by decide, by decide⟩) ⟨pre.blind, va_recv (q := (RX4, TX4, 3)) hK hP (ci := 3) (q0 := 0) rfl rfl, fun U hU hW => ⟨rfl, pre.of (wc := [(r, .inr (3, [.ref rc, .int n, .int z])), (rc, .inl (cR, 512, .inl f))]) (tysc := [(cR, .int)]) (tk := [0]) hP hD hK hS hA hE hZ [0, 1] (by decide) rfl rfl rfl U hU hW⟩⟩ rfl rfl hl.1 rfl (lv_room (Nat.le_of_ble_eq_true rfl)) dX4_makeStep_28 ⟨by decide, by decide⟩) hP hD hK hS hA [0, 1] [2, 3] rfl rfl (by decide) (by decide) (fun v u H locs hw hP hD hK9 hS => ?_)
      obtain ⟨f1_13, n1_14, z1_15⟩ := u
      have hw : v = none ∧ r_neg f n z = (f1_13, n1_14, z1_15) := hw
      obtain ⟨rfl, hq_16⟩ := hw
      have hP : va_P D vwCl [(s_, .inr (3, [.ref sc, .int k, .int y])), (sc, .inl (cR, 512, .inl g)), (r, .inr (3, [.ref rc, .int n1_14, .int z1_15])), (rc, .inl (cR, 512, .inl f1_13))] H := hP
      have hD : va_D _ [(s_, .inr (3, [.ref sc, .int k, .int y])), (sc, .inl (cR, 512, .inl g)), (r, .inr (3, [.ref rc, .int n1_14, .int z1_15])), (rc, .inl (cR, 512, .inl f1_13))] := hD
      refine W.eq (g2 := F0 m 31 ls []) rfl ?_
      refine lv_iload_n hx hb dX4_makeStep_31 rfl (lv_at hl 2 rfl) ?_
      refine lv_if_eq (tgt := 40) hx hb dX4_makeStep_32 (by decide) (fun c9 => absurd c9 (by rw [c_7]; decide)) (fun _ => ?_)
      refine lv_iload_n hx hb dX4_makeStep_35 rfl (lv_at hl 2 rfl) ?_
      refine lv_iconst (v := 3) hx hb dX4_makeStep_36 (by decide) ?_
      refine lv_icmp_ne (tgt := 48) hx hb dX4_makeStep_37 (by decide) (fun _ => ?_) (fun c9 => absurd c9 c_2)
      refine lv_aload_n hx hb dX4_makeStep_48 rfl (lv_at hl 1 rfl) ?_
      refine lv_aload_n hx hb dX4_makeStep_49 rfl (lv_at hl 4 rfl) ?_
      refine ck_run (wr := []) (va_runV (C := RX4) (As := [.ref s_]) (rest := []) ⟨hx, hb, hml, hown, hts⟩ (c_others l D H.size r rc cR f1_13 n1_14 z1_15 s_ sc g k y (ok_of hq_16 (r_neg_ok hn)) hk) (cw_V (n := 1) hts tw_3_78 tw_3_80 tw_s32 tw_1_3 tw_3_81 (by decide +kernel) ⟨by decide, by decide⟩) ⟨pre.blind, va_recv (q := (RX4, TX4, 3)) hK hP (ci := 3) (q0 := 2) rfl rfl, fun U hU hW => ⟨rfl, pre.of (wc := [(r, .inr (3, [.ref rc, .int n1_14, .int z1_15])), (rc, .inl (cR, 512, .inl f1_13)), (s_, .inr (3, [.ref sc, .int k, .int y])), (sc, .inl (cR, 512, .inl g))]) (tysc := [(cR, .int)]) (tk := [0]) hP hD hK hS hA hE hZ [2, 3, 0, 1] (by decide) rfl rfl rfl U hU hW⟩⟩ rfl rfl hl.1 rfl (lv_room (Nat.le_of_ble_eq_true rfl)) dX4_makeStep_50 ⟨by decide, by decide⟩) hP hD hK hS hA [2, 3, 0, 1] [] rfl rfl (by decide) (by decide) (fun v u H locs hw hP hD hK9 hS => ?_)
      obtain ⟨f1_17, n1_18, z1_19⟩ := u
      have hw : v = some (.int ((r_others g k y f1_13 n1_14 z1_15).1)) ∧ (r_others g k y f1_13 n1_14 z1_15).2 = (f1_17, n1_18, z1_19) := hw
      obtain ⟨rfl, hq_20⟩ := hw
      have hP : va_P D vwCl [(r, .inr (3, [.ref rc, .int n1_18, .int z1_19])), (rc, .inl (cR, 512, .inl f1_17)), (s_, .inr (3, [.ref sc, .int k, .int y])), (sc, .inl (cR, 512, .inl g))] H := hP
      have hD : va_D _ [(r, .inr (3, [.ref rc, .int n1_18, .int z1_19])), (rc, .inl (cR, 512, .inl f1_17)), (s_, .inr (3, [.ref sc, .int k, .int y])), (sc, .inl (cR, 512, .inl g))] := hD
      refine W.eq (g2 := F0 m 53 ls [.int ((r_others g k y f1_13 n1_14 z1_15).1)]) rfl ?_
      refine lv_istore (lv' := [(5, .int ((r_others g k y f1_13 n1_14 z1_15).1)), (4, .int 1), (0, .ref r), (1, .int ki), (2, .int a), (3, .ref s_)]) hx hb dX4_makeStep_53 hl (by decide) rfl (fun ls hl => ?_)
      refine lv_iload hx hb dX4_makeStep_55 (lv_at hl 1 rfl) ?_
      refine lv_if_eq (tgt := 64) hx hb dX4_makeStep_57 (by decide) (fun c9 => absurd c9 (by decide)) (fun _ => ?_)
      refine lv_aload_n hx hb dX4_makeStep_60 rfl (lv_at hl 2 rfl) ?_
      refine ck_run (wr := [(s_, .inr (3, [.ref sc, .int k, .int y])), (sc, .inl (cR, 512, .inl g))]) (va_runV (C := RX4) (As := []) (rest := []) ⟨hx, hb, hml, hown, hts⟩ (c_neg l D H.size r rc cR f1_17 n1_18 z1_19 (ok_of hq_20 (r_others_ok (ok_of hq_16 (r_neg_ok hn))))) (cw_V (n := 0) hts tw_2_198 tw_2_142 tw_2_143 tw_1_3 tw_2_144 (by decide +kernel) ⟨by decide, by decide⟩) ⟨pre.blind, va_recv (q := (RX4, TX4, 3)) hK hP (ci := 3) (q0 := 0) rfl rfl, fun U hU hW => ⟨rfl, pre.of (wc := [(r, .inr (3, [.ref rc, .int n1_18, .int z1_19])), (rc, .inl (cR, 512, .inl f1_17))]) (tysc := [(cR, .int)]) (tk := [0]) hP hD hK hS hA hE hZ [0, 1] (by decide) rfl rfl rfl U hU hW⟩⟩ rfl rfl hl.1 rfl (lv_room (Nat.le_of_ble_eq_true rfl)) dX4_makeStep_61 ⟨by decide, by decide⟩) hP hD hK hS hA [0, 1] [2, 3] rfl rfl (by decide) (by decide) (fun v u H locs hw hP hD hK9 hS => ?_)
      obtain ⟨f1_21, n1_22, z1_23⟩ := u
      have hw : v = none ∧ r_neg f1_17 n1_18 z1_19 = (f1_21, n1_22, z1_23) := hw
      obtain ⟨rfl, hq_24⟩ := hw
      have hP : va_P D vwCl [(s_, .inr (3, [.ref sc, .int k, .int y])), (sc, .inl (cR, 512, .inl g)), (r, .inr (3, [.ref rc, .int n1_22, .int z1_23])), (rc, .inl (cR, 512, .inl f1_21))] H := hP
      have hD : va_D _ [(s_, .inr (3, [.ref sc, .int k, .int y])), (sc, .inl (cR, 512, .inl g)), (r, .inr (3, [.ref rc, .int n1_22, .int z1_23])), (rc, .inl (cR, 512, .inl f1_21))] := hD
      refine W.eq (g2 := F0 m 64 ls []) rfl ?_
      refine lv_iload hx hb dX4_makeStep_64 (lv_at hl 0 rfl) ?_
      exact ck_iret ⟨f1_21, n1_22, z1_23⟩ hx hb hr (nb (by first | exact r_isAll_01 | exact r_others_01)) hlocks ⟨(congrArg (fun z9 => some (Value.int z9)) (show ((r_others g k y f1_13 n1_14 z1_15).1 : Int32) = (r_step ki a g k y f n z).1 from (by unfold r_step; rw [if_neg (show ¬ r_turn ki = 0 from by unfold r_turn; rw [if_neg c_2, if_pos c_7]; try decide)]; simp only [r_inner, if_neg (show ¬ ki = 0 from by rw [c_7]; decide), if_neg c_2, hq_16, hq_20, hq_24]))), (by unfold r_step; rw [if_neg (show ¬ r_turn ki = 0 from by unfold r_turn; rw [if_neg c_2, if_pos c_7]; try decide)]; simp only [r_inner, if_neg (show ¬ ki = 0 from by rw [c_7]; decide), if_neg c_2, hq_16, hq_20, hq_24])⟩ (hP.sub [2, 3, 0, 1] rfl) (hK.sub [0] rfl) (hD.sub [2, 3, 0, 1] (by decide) rfl) hS (by decide) (by decide) dX4_makeStep_66
    · refine lv_iload_n hx hb dX4_makeStep_10 rfl (lv_at hl 1 rfl) ?_
      refine lv_iconst (v := 4) hx hb dX4_makeStep_11 (by decide) ?_
      refine lv_icmp_ne (tgt := 19) hx hb dX4_makeStep_12 (by decide) (fun c_12 => ?_) (fun c_12 => ?_)
      · refine lv_iconst (v := 0) hx hb dX4_makeStep_19 (by decide) ?_
        refine lv_istore (lv' := [(4, .int 0), (0, .ref r), (1, .int ki), (2, .int a), (3, .ref s_)]) hx hb dX4_makeStep_20 hl (by decide) rfl (fun ls hl => ?_)
        refine lv_iload hx hb dX4_makeStep_22 (lv_at hl 0 rfl) ?_
        refine lv_if_eq (tgt := 31) hx hb dX4_makeStep_24 (by decide) (fun _ => ?_) (fun c9 => absurd (by decide) c9)
        refine lv_iload_n hx hb dX4_makeStep_31 rfl (lv_at hl 2 rfl) ?_
        refine lv_if_eq (tgt := 40) hx hb dX4_makeStep_32 (by decide) (fun c_32 => ?_) (fun c_32 => ?_)
        · refine lv_aload_n hx hb dX4_makeStep_40 rfl (lv_at hl 1 rfl) ?_
          refine lv_iload_n hx hb dX4_makeStep_41 rfl (lv_at hl 3 rfl) ?_
          refine ck_run (wr := [(s_, .inr (3, [.ref sc, .int k, .int y])), (sc, .inl (cR, 512, .inl g))]) (va_runV (C := RX4) (As := [.int a]) (rest := []) ⟨hx, hb, hml, hown, hts⟩ (c_body l D s.heap.size r rc cR f n z a hn) (cw_V (n := 1) hts tw_3_74 tw_3_76 tw_s31 tw_1_3 tw_3_77 (by decide +kernel) ⟨by decide, by decide⟩) ⟨pre.blind, va_recv (q := (RX4, TX4, 3)) hK hP (ci := 3) (q0 := 0) rfl rfl, fun U hU hW => ⟨rfl, pre.of (wc := [(r, .inr (3, [.ref rc, .int n, .int z])), (rc, .inl (cR, 512, .inl f))]) (tysc := [(cR, .int)]) (tk := [0]) hP hD hK hS hA hE hZ [0, 1] (by decide) rfl rfl rfl U hU hW⟩⟩ rfl rfl hl.1 rfl (lv_room (Nat.le_of_ble_eq_true rfl)) dX4_makeStep_42 ⟨by decide, by decide⟩) hP hD hK hS hA [0, 1] [2, 3] rfl rfl (by decide) (by decide) (fun v u H locs hw hP hD hK9 hS => ?_)
          obtain ⟨f1_25, n1_26, z1_27⟩ := u
          have hw : v = some (.int (r_isAll f)) ∧ r_body a f n z = (f1_25, n1_26, z1_27) := hw
          obtain ⟨rfl, hq_28⟩ := hw
          have hP : va_P D vwCl [(s_, .inr (3, [.ref sc, .int k, .int y])), (sc, .inl (cR, 512, .inl g)), (r, .inr (3, [.ref rc, .int n1_26, .int z1_27])), (rc, .inl (cR, 512, .inl f1_25))] H := hP
          have hD : va_D _ [(s_, .inr (3, [.ref sc, .int k, .int y])), (sc, .inl (cR, 512, .inl g)), (r, .inr (3, [.ref rc, .int n1_26, .int z1_27])), (rc, .inl (cR, 512, .inl f1_25))] := hD
          refine W.eq (g2 := F0 m 45 ls [.int (r_isAll f)]) rfl ?_
          refine lv_goto (tgt := 53) hx hb dX4_makeStep_45 (by decide) ?_
          refine lv_istore (lv' := [(5, .int (r_isAll f)), (4, .int 0), (0, .ref r), (1, .int ki), (2, .int a), (3, .ref s_)]) hx hb dX4_makeStep_53 hl (by decide) rfl (fun ls hl => ?_)
          refine lv_iload hx hb dX4_makeStep_55 (lv_at hl 1 rfl) ?_
          refine lv_if_eq (tgt := 64) hx hb dX4_makeStep_57 (by decide) (fun _ => ?_) (fun c9 => absurd (by decide) c9)
          refine lv_iload hx hb dX4_makeStep_64 (lv_at hl 0 rfl) ?_
          exact ck_iret ⟨f1_25, n1_26, z1_27⟩ hx hb hr (nb (by first | exact r_isAll_01 | exact r_others_01)) hlocks ⟨(congrArg (fun z9 => some (Value.int z9)) (show (r_isAll f : Int32) = (r_step ki a g k y f n z).1 from (by unfold r_step; rw [if_pos (show r_turn ki = 0 from by unfold r_turn; rw [if_neg c_2, if_neg c_7, if_neg c_12]; try decide)]; simp only [r_inner, if_pos c_32, if_neg c_2, hq_28]))), (by unfold r_step; rw [if_pos (show r_turn ki = 0 from by unfold r_turn; rw [if_neg c_2, if_neg c_7, if_neg c_12]; try decide)]; simp only [r_inner, if_pos c_32, if_neg c_2, hq_28])⟩ (hP.sub [2, 3, 0, 1] rfl) (hK.sub [0] rfl) (hD.sub [2, 3, 0, 1] (by decide) rfl) hS (by decide) (by decide) dX4_makeStep_66
        · refine lv_iload_n hx hb dX4_makeStep_35 rfl (lv_at hl 2 rfl) ?_
          refine lv_iconst (v := 3) hx hb dX4_makeStep_36 (by decide) ?_
          refine lv_icmp_ne (tgt := 48) hx hb dX4_makeStep_37 (by decide) (fun _ => ?_) (fun c9 => absurd c9 c_2)
          refine lv_aload_n hx hb dX4_makeStep_48 rfl (lv_at hl 1 rfl) ?_
          refine lv_aload_n hx hb dX4_makeStep_49 rfl (lv_at hl 4 rfl) ?_
          refine ck_run (wr := []) (va_runV (C := RX4) (As := [.ref s_]) (rest := []) ⟨hx, hb, hml, hown, hts⟩ (c_others l D s.heap.size r rc cR f n z s_ sc g k y hn hk) (cw_V (n := 1) hts tw_3_78 tw_3_80 tw_s32 tw_1_3 tw_3_81 (by decide +kernel) ⟨by decide, by decide⟩) ⟨pre.blind, va_recv (q := (RX4, TX4, 3)) hK hP (ci := 3) (q0 := 0) rfl rfl, fun U hU hW => ⟨rfl, pre.of (wc := [(r, .inr (3, [.ref rc, .int n, .int z])), (rc, .inl (cR, 512, .inl f)), (s_, .inr (3, [.ref sc, .int k, .int y])), (sc, .inl (cR, 512, .inl g))]) (tysc := [(cR, .int)]) (tk := [0]) hP hD hK hS hA hE hZ [0, 1, 2, 3] (by decide) rfl rfl rfl U hU hW⟩⟩ rfl rfl hl.1 rfl (lv_room (Nat.le_of_ble_eq_true rfl)) dX4_makeStep_50 ⟨by decide, by decide⟩) hP hD hK hS hA [0, 1, 2, 3] [] rfl rfl (by decide) (by decide) (fun v u H locs hw hP hD hK9 hS => ?_)
          obtain ⟨f1_29, n1_30, z1_31⟩ := u
          have hw : v = some (.int ((r_others g k y f n z).1)) ∧ (r_others g k y f n z).2 = (f1_29, n1_30, z1_31) := hw
          obtain ⟨rfl, hq_32⟩ := hw
          have hP : va_P D vwCl [(r, .inr (3, [.ref rc, .int n1_30, .int z1_31])), (rc, .inl (cR, 512, .inl f1_29)), (s_, .inr (3, [.ref sc, .int k, .int y])), (sc, .inl (cR, 512, .inl g))] H := hP
          have hD : va_D _ [(r, .inr (3, [.ref rc, .int n1_30, .int z1_31])), (rc, .inl (cR, 512, .inl f1_29)), (s_, .inr (3, [.ref sc, .int k, .int y])), (sc, .inl (cR, 512, .inl g))] := hD
          refine W.eq (g2 := F0 m 53 ls [.int ((r_others g k y f n z).1)]) rfl ?_
          refine lv_istore (lv' := [(5, .int ((r_others g k y f n z).1)), (4, .int 0), (0, .ref r), (1, .int ki), (2, .int a), (3, .ref s_)]) hx hb dX4_makeStep_53 hl (by decide) rfl (fun ls hl => ?_)
          refine lv_iload hx hb dX4_makeStep_55 (lv_at hl 1 rfl) ?_
          refine lv_if_eq (tgt := 64) hx hb dX4_makeStep_57 (by decide) (fun _ => ?_) (fun c9 => absurd (by decide) c9)
          refine lv_iload hx hb dX4_makeStep_64 (lv_at hl 0 rfl) ?_
          exact ck_iret ⟨f1_29, n1_30, z1_31⟩ hx hb hr (nb (by first | exact r_isAll_01 | exact r_others_01)) hlocks ⟨(congrArg (fun z9 => some (Value.int z9)) (show ((r_others g k y f n z).1 : Int32) = (r_step ki a g k y f n z).1 from (by unfold r_step; rw [if_pos (show r_turn ki = 0 from by unfold r_turn; rw [if_neg c_2, if_neg c_7, if_neg c_12]; try decide)]; simp only [r_inner, if_neg c_32, if_neg c_2, hq_32]))), (by unfold r_step; rw [if_pos (show r_turn ki = 0 from by unfold r_turn; rw [if_neg c_2, if_neg c_7, if_neg c_12]; try decide)]; simp only [r_inner, if_neg c_32, if_neg c_2, hq_32])⟩ (hP.sub [0, 1, 2, 3] rfl) (hK.sub [0] rfl) (hD.sub [0, 1, 2, 3] (by decide) rfl) hS (by decide) (by decide) dX4_makeStep_66
      · refine lv_iconst (v := 1) hx hb dX4_makeStep_15 (by decide) ?_
        refine lv_goto (tgt := 20) hx hb dX4_makeStep_16 (by decide) ?_
        refine lv_istore (lv' := [(4, .int 1), (0, .ref r), (1, .int ki), (2, .int a), (3, .ref s_)]) hx hb dX4_makeStep_20 hl (by decide) rfl (fun ls hl => ?_)
        refine lv_iload hx hb dX4_makeStep_22 (lv_at hl 0 rfl) ?_
        refine lv_if_eq (tgt := 31) hx hb dX4_makeStep_24 (by decide) (fun c9 => absurd c9 (by decide)) (fun _ => ?_)
        refine lv_aload_n hx hb dX4_makeStep_27 rfl (lv_at hl 1 rfl) ?_
        refine ck_run (wr := [(s_, .inr (3, [.ref sc, .int k, .int y])), (sc, .inl (cR, 512, .inl g))]) (va_runV (C := RX4) (As := []) (rest := []) ⟨hx, hb, hml, hown, hts⟩ (c_neg l D s.heap.size r rc cR f n z hn) (cw_V (n := 0) hts tw_2_198 tw_2_142 tw_2_143 tw_1_3 tw_2_144 (by decide +kernel) ⟨by decide, by decide⟩) ⟨pre.blind, va_recv (q := (RX4, TX4, 3)) hK hP (ci := 3) (q0 := 0) rfl rfl, fun U hU hW => ⟨rfl, pre.of (wc := [(r, .inr (3, [.ref rc, .int n, .int z])), (rc, .inl (cR, 512, .inl f))]) (tysc := [(cR, .int)]) (tk := [0]) hP hD hK hS hA hE hZ [0, 1] (by decide) rfl rfl rfl U hU hW⟩⟩ rfl rfl hl.1 rfl (lv_room (Nat.le_of_ble_eq_true rfl)) dX4_makeStep_28 ⟨by decide, by decide⟩) hP hD hK hS hA [0, 1] [2, 3] rfl rfl (by decide) (by decide) (fun v u H locs hw hP hD hK9 hS => ?_)
        obtain ⟨f1_33, n1_34, z1_35⟩ := u
        have hw : v = none ∧ r_neg f n z = (f1_33, n1_34, z1_35) := hw
        obtain ⟨rfl, hq_36⟩ := hw
        have hP : va_P D vwCl [(s_, .inr (3, [.ref sc, .int k, .int y])), (sc, .inl (cR, 512, .inl g)), (r, .inr (3, [.ref rc, .int n1_34, .int z1_35])), (rc, .inl (cR, 512, .inl f1_33))] H := hP
        have hD : va_D _ [(s_, .inr (3, [.ref sc, .int k, .int y])), (sc, .inl (cR, 512, .inl g)), (r, .inr (3, [.ref rc, .int n1_34, .int z1_35])), (rc, .inl (cR, 512, .inl f1_33))] := hD
        refine W.eq (g2 := F0 m 31 ls []) rfl ?_
        refine lv_iload_n hx hb dX4_makeStep_31 rfl (lv_at hl 2 rfl) ?_
        refine lv_if_eq (tgt := 40) hx hb dX4_makeStep_32 (by decide) (fun c9 => absurd c9 (by rw [c_12]; decide)) (fun _ => ?_)
        refine lv_iload_n hx hb dX4_makeStep_35 rfl (lv_at hl 2 rfl) ?_
        refine lv_iconst (v := 3) hx hb dX4_makeStep_36 (by decide) ?_
        refine lv_icmp_ne (tgt := 48) hx hb dX4_makeStep_37 (by decide) (fun _ => ?_) (fun c9 => absurd c9 c_2)
        refine lv_aload_n hx hb dX4_makeStep_48 rfl (lv_at hl 1 rfl) ?_
        refine lv_aload_n hx hb dX4_makeStep_49 rfl (lv_at hl 4 rfl) ?_
        refine ck_run (wr := []) (va_runV (C := RX4) (As := [.ref s_]) (rest := []) ⟨hx, hb, hml, hown, hts⟩ (c_others l D H.size r rc cR f1_33 n1_34 z1_35 s_ sc g k y (ok_of hq_36 (r_neg_ok hn)) hk) (cw_V (n := 1) hts tw_3_78 tw_3_80 tw_s32 tw_1_3 tw_3_81 (by decide +kernel) ⟨by decide, by decide⟩) ⟨pre.blind, va_recv (q := (RX4, TX4, 3)) hK hP (ci := 3) (q0 := 2) rfl rfl, fun U hU hW => ⟨rfl, pre.of (wc := [(r, .inr (3, [.ref rc, .int n1_34, .int z1_35])), (rc, .inl (cR, 512, .inl f1_33)), (s_, .inr (3, [.ref sc, .int k, .int y])), (sc, .inl (cR, 512, .inl g))]) (tysc := [(cR, .int)]) (tk := [0]) hP hD hK hS hA hE hZ [2, 3, 0, 1] (by decide) rfl rfl rfl U hU hW⟩⟩ rfl rfl hl.1 rfl (lv_room (Nat.le_of_ble_eq_true rfl)) dX4_makeStep_50 ⟨by decide, by decide⟩) hP hD hK hS hA [2, 3, 0, 1] [] rfl rfl (by decide) (by decide) (fun v u H locs hw hP hD hK9 hS => ?_)
        obtain ⟨f1_37, n1_38, z1_39⟩ := u
        have hw : v = some (.int ((r_others g k y f1_33 n1_34 z1_35).1)) ∧ (r_others g k y f1_33 n1_34 z1_35).2 = (f1_37, n1_38, z1_39) := hw
        obtain ⟨rfl, hq_40⟩ := hw
        have hP : va_P D vwCl [(r, .inr (3, [.ref rc, .int n1_38, .int z1_39])), (rc, .inl (cR, 512, .inl f1_37)), (s_, .inr (3, [.ref sc, .int k, .int y])), (sc, .inl (cR, 512, .inl g))] H := hP
        have hD : va_D _ [(r, .inr (3, [.ref rc, .int n1_38, .int z1_39])), (rc, .inl (cR, 512, .inl f1_37)), (s_, .inr (3, [.ref sc, .int k, .int y])), (sc, .inl (cR, 512, .inl g))] := hD
        refine W.eq (g2 := F0 m 53 ls [.int ((r_others g k y f1_33 n1_34 z1_35).1)]) rfl ?_
        refine lv_istore (lv' := [(5, .int ((r_others g k y f1_33 n1_34 z1_35).1)), (4, .int 1), (0, .ref r), (1, .int ki), (2, .int a), (3, .ref s_)]) hx hb dX4_makeStep_53 hl (by decide) rfl (fun ls hl => ?_)
        refine lv_iload hx hb dX4_makeStep_55 (lv_at hl 1 rfl) ?_
        refine lv_if_eq (tgt := 64) hx hb dX4_makeStep_57 (by decide) (fun c9 => absurd c9 (by decide)) (fun _ => ?_)
        refine lv_aload_n hx hb dX4_makeStep_60 rfl (lv_at hl 2 rfl) ?_
        refine ck_run (wr := [(s_, .inr (3, [.ref sc, .int k, .int y])), (sc, .inl (cR, 512, .inl g))]) (va_runV (C := RX4) (As := []) (rest := []) ⟨hx, hb, hml, hown, hts⟩ (c_neg l D H.size r rc cR f1_37 n1_38 z1_39 (ok_of hq_40 (r_others_ok (ok_of hq_36 (r_neg_ok hn))))) (cw_V (n := 0) hts tw_2_198 tw_2_142 tw_2_143 tw_1_3 tw_2_144 (by decide +kernel) ⟨by decide, by decide⟩) ⟨pre.blind, va_recv (q := (RX4, TX4, 3)) hK hP (ci := 3) (q0 := 0) rfl rfl, fun U hU hW => ⟨rfl, pre.of (wc := [(r, .inr (3, [.ref rc, .int n1_38, .int z1_39])), (rc, .inl (cR, 512, .inl f1_37))]) (tysc := [(cR, .int)]) (tk := [0]) hP hD hK hS hA hE hZ [0, 1] (by decide) rfl rfl rfl U hU hW⟩⟩ rfl rfl hl.1 rfl (lv_room (Nat.le_of_ble_eq_true rfl)) dX4_makeStep_61 ⟨by decide, by decide⟩) hP hD hK hS hA [0, 1] [2, 3] rfl rfl (by decide) (by decide) (fun v u H locs hw hP hD hK9 hS => ?_)
        obtain ⟨f1_41, n1_42, z1_43⟩ := u
        have hw : v = none ∧ r_neg f1_37 n1_38 z1_39 = (f1_41, n1_42, z1_43) := hw
        obtain ⟨rfl, hq_44⟩ := hw
        have hP : va_P D vwCl [(s_, .inr (3, [.ref sc, .int k, .int y])), (sc, .inl (cR, 512, .inl g)), (r, .inr (3, [.ref rc, .int n1_42, .int z1_43])), (rc, .inl (cR, 512, .inl f1_41))] H := hP
        have hD : va_D _ [(s_, .inr (3, [.ref sc, .int k, .int y])), (sc, .inl (cR, 512, .inl g)), (r, .inr (3, [.ref rc, .int n1_42, .int z1_43])), (rc, .inl (cR, 512, .inl f1_41))] := hD
        refine W.eq (g2 := F0 m 64 ls []) rfl ?_
        refine lv_iload hx hb dX4_makeStep_64 (lv_at hl 0 rfl) ?_
        exact ck_iret ⟨f1_41, n1_42, z1_43⟩ hx hb hr (nb (by first | exact r_isAll_01 | exact r_others_01)) hlocks ⟨(congrArg (fun z9 => some (Value.int z9)) (show ((r_others g k y f1_33 n1_34 z1_35).1 : Int32) = (r_step ki a g k y f n z).1 from (by unfold r_step; rw [if_neg (show ¬ r_turn ki = 0 from by unfold r_turn; rw [if_neg c_2, if_neg c_7, if_pos c_12]; try decide)]; simp only [r_inner, if_neg (show ¬ ki = 0 from by rw [c_12]; decide), if_neg c_2, hq_36, hq_40, hq_44]))), (by unfold r_step; rw [if_neg (show ¬ r_turn ki = 0 from by unfold r_turn; rw [if_neg c_2, if_neg c_7, if_pos c_12]; try decide)]; simp only [r_inner, if_neg (show ¬ ki = 0 from by rw [c_12]; decide), if_neg c_2, hq_36, hq_40, hq_44])⟩ (hP.sub [2, 3, 0, 1] rfl) (hK.sub [0] rfl) (hD.sub [2, 3, 0, 1] (by decide) rfl) hS (by decide) (by decide) dX4_makeStep_66
