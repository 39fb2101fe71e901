set_option maxHeartbeats 4000000 in
set_option maxRecDepth 100000 in
theorem stop_loop {p : Program} {l : Launch} {e : Env} {s : State} {m : MethodId} {args : Array Value} {below : List Frame} {meth : Method} {c : Code} {Q : State → Prop} {D : va_G} {A : Nat → Prop} {r rc : Nat} {cR : ClassId} {f : Nat → Int32} {n z : Int32} (hx : p.tables.exec = Jvm.exec) (hb : c.code = cX4_stopOf) (hml : c.maxLocals = 4) (hown : s.vm.findClass RX4 = some m.cls) (hts : ∀ w ∈ lw_G, w.before args s = true) (hE : ev s) (hZ : zz A s s.heap) (hA : ∀ q, s.heap.size ≤ q → A q) (hn : r_ok n) (hK : va_K D vwCl [(cR, .int)] s) :
    ∀ (t : Nat) (x p_ : Int32) (H : Heap) (locs : List Loc) (ls : Array Slot), n.toInt - x.toInt ≤ t → va_P D vwCl [(r, .inr (3, [.ref rc, .int n, .int z])), (rc, .inl (cR, 512, .inl f))] H → va_D A [(r, .inr (3, [.ref rc, .int n, .int z])), (rc, .inl (cR, 512, .inl f))] → va_S A s.heap H locs → lv_has ls 4 [(3, .int p_), (2, .int x), (0, .ref r)] → (∀ (H : Heap) (locs : List Loc) (ls : Array Slot), va_P D vwCl [(r, .inr (3, [.ref rc, .int n, .int z])), (rc, .inl (cR, 512, .inl f))] H → va_D A [(r, .inr (3, [.ref rc, .int n, .int z])), (rc, .inl (cR, 512, .inl f))] → va_S A s.heap H locs → lv_has ls 4 [(2, .int (r_stop f n t x p_))] → W p l e (rmK 14 410 0 0) s m args below meth c H locs 0 0 Q (F0 m 35 ls [])) → W p l e (rmK 14 410 0 0) s m args below meth c H locs 0 0 Q (F0 m 4 ls []) := by
  intro t
  induction t with
  | zero =>
    intro x p_ H locs ls ht hP hD hS hl kont
    refine lv_iload_n hx hb dX4_stopOf_4 rfl (lv_at hl 0 rfl) ?_
    refine lv_if_le (tgt := 35) hx hb dX4_stopOf_5 (by decide) (fun c_5 => ?_) (fun c_5 => ?_)
    · exact kont H locs ls hP hD hS (by rw [r_stop_0]; exact lv_sub hl [1] rfl)
    · refine lv_iload_n hx hb dX4_stopOf_8 rfl (lv_at hl 1 rfl) ?_
      refine lv_aload_n hx hb dX4_stopOf_9 rfl (lv_at hl 2 rfl) ?_
      refine va_get (ci := 3) (v := .int n) (C := RX4) (T := TX4) (N := 3) hx hb hts inG_X4 hown hK hP 0 rfl rfl 1 (by decide) (hts _ tw_1_62) (fun _ h9 => h9) rfl dX4_stopOf_10 ?_
      refine lv_icmp_ge (tgt := 35) hx hb dX4_stopOf_13 (by decide) (fun _ => ?_) (fun c9 => absurd (i_lem (by omega)) c9)
      exact kont H locs ls hP hD hS (by rw [r_stop_0]; exact lv_sub hl [1] rfl)
  | succ t ih =>
    intro x p_ H locs ls ht hP hD hS hl kont
    refine lv_iload_n hx hb dX4_stopOf_4 rfl (lv_at hl 0 rfl) ?_
    refine lv_if_le (tgt := 35) hx hb dX4_stopOf_5 (by decide) (fun c_5 => ?_) (fun c_5 => ?_)
    · exact kont H locs ls hP hD hS (by rw [(r_stop_a c_5)]; exact lv_sub hl [1] rfl)
    · refine lv_iload_n hx hb dX4_stopOf_8 rfl (lv_at hl 1 rfl) ?_
      refine lv_aload_n hx hb dX4_stopOf_9 rfl (lv_at hl 2 rfl) ?_
      refine va_get (ci := 3) (v := .int n) (C := RX4) (T := TX4) (N := 3) hx hb hts inG_X4 hown hK hP 0 rfl rfl 1 (by decide) (hts _ tw_1_62) (fun _ h9 => h9) rfl dX4_stopOf_10 ?_
      refine lv_icmp_ge (tgt := 35) hx hb dX4_stopOf_13 (by decide) (fun c_13 => ?_) (fun c_13 => ?_)
      · exact kont H locs ls hP hD hS (by rw [(r_stop_b c_5 c_13)]; exact lv_sub hl [1] rfl)
      · refine lv_iload_n hx hb dX4_stopOf_16 rfl (lv_at hl 0 rfl) ?_
        refine lv_aload_n hx hb dX4_stopOf_17 rfl (lv_at hl 2 rfl) ?_
        refine lv_iload_n hx hb dX4_stopOf_18 rfl (lv_at hl 1 rfl) ?_
        refine ck_run (wr := []) (va_runV (C := RX4) (As := [.int x]) (rest := [.int p_]) ⟨hx, hb, hml, hown, hts⟩ (c_codeAt l D H.size r rc cR f n z x) (cw_V (n := 1) hts tw_3_102 tw_3_104 tw_s36 tw_1_3 tw_3_105 (by decide +kernel) ⟨by decide, by decide⟩) ⟨pre.blind, va_recv (q := (RX4, TX4, 3)) hK hP (ci := 3) (q0 := 0) rfl rfl, fun U hU hW => ⟨rfl, pre.of (wc := [(r, .inr (3, [.ref rc, .int n, .int z])), (rc, .inl (cR, 512, .inl f))]) (tysc := [(cR, .int)]) (tk := [0]) hP hD hK hS hA hE hZ [0, 1] (by decide) rfl rfl rfl U hU hW⟩⟩ rfl rfl hl.1 rfl (lv_room (Nat.le_of_ble_eq_true rfl)) dX4_stopOf_19 ⟨by decide, by decide⟩) hP hD hK hS hA [0, 1] [] rfl rfl (by decide) (by decide) (fun v u H locs hw hP hD hK9 hS => ?_)
        have hw : v = some (.int (r_codeAt x f n)) := hw
        subst hw
        have hP : va_P D vwCl [(r, .inr (3, [.ref rc, .int n, .int z])), (rc, .inl (cR, 512, .inl f))] H := hP
        have hD : va_D _ [(r, .inr (3, [.ref rc, .int n, .int z])), (rc, .inl (cR, 512, .inl f))] := hD
        refine W.eq (g2 := F0 m 22 ls [.int (r_codeAt x f n), .int p_]) rfl ?_
        refine ck_run (wr := [(r, .inr (3, [.ref rc, .int n, .int z])), (rc, .inl (cR, 512, .inl f))]) (va_runS (As := [.int (r_codeAt x f n)]) (rest := [.int p_]) ⟨hx, hb, hml, hown, hts⟩ (c_many l D H.size (r_codeAt x f n)) (cw_S (n := 1) hts tw_3_237 tw_3_215 tw_1_8 tw_3_216 (by decide +kernel) ⟨by decide, by decide⟩) ⟨pre.blind, fun U hU hW => ⟨rfl, pre.of (wc := []) (tysc := []) (tk := []) hP hD hK hS hA hE hZ [] (by decide) rfl rfl rfl U hU hW⟩⟩ rfl rfl hl.1 rfl (lv_room (Nat.le_of_ble_eq_true rfl)) dX4_stopOf_22 ⟨by decide, by decide⟩) hP hD hK hS hA [] [0, 1] rfl rfl (by decide) (by decide) (fun v u H locs hw hP hD hK9 hS => ?_)
        have hw : v = some (.int (k_many (r_codeAt x f n))) := hw
        subst hw
        have hP : va_P D vwCl [(r, .inr (3, [.ref rc, .int n, .int z])), (rc, .inl (cR, 512, .inl f))] H := hP
        have hD : va_D _ [(r, .inr (3, [.ref rc, .int n, .int z])), (rc, .inl (cR, 512, .inl f))] := hD
        refine W.eq (g2 := F0 m 25 ls [.int (k_many (r_codeAt x f n)), .int p_]) rfl ?_
        refine lv_iconst (v := 1) hx hb dX4_stopOf_25 (by decide) ?_
        refine lv_isub hx hb dX4_stopOf_26 ?_
        refine ck_top (y := k_many (r_codeAt x f n) - 1) rfl ?_
        refine lv_iadd hx hb dX4_stopOf_27 ?_
        refine ck_top (y := p_ + (k_many (r_codeAt x f n) - 1)) rfl ?_
        refine lv_istore_n (lv' := [(3, .int (p_ + (k_many (r_codeAt x f n) - 1))), (2, .int x), (0, .ref r)]) hx hb dX4_stopOf_28 rfl hl (by decide) rfl (fun ls hl => ?_)
        obtain ⟨z_1, ez_1⟩ : ∃ z : Int32, z = x + 1 := ⟨_, rfl⟩
        refine lv_iinc (v := z_1) (lv' := [(2, .int z_1), (3, .int (p_ + (k_many (r_codeAt x f n) - 1))), (0, .ref r)]) hx hb dX4_stopOf_29 hl (k := 1) rfl (by rw [ez_1]; rfl) (by decide) rfl (fun ls hl => ?_)
        refine lv_goto (tgt := 4) hx hb dX4_stopOf_32 (by decide) ?_
        subst ez_1
        exact ih (x + 1) (p_ + (k_many (r_codeAt x f n) - 1)) H locs ls (by have q1 := i_inc hn c_13; have q2 := i_nle c_13; omega) hP hD hS (lv_sub hl [1, 0, 2] rfl) (fun H locs ls hP hD hS hl => kont H locs ls hP hD hS (by rw [r_stop_c c_5 c_13]; exact hl))
set_option maxHeartbeats 4000000 in
set_option maxRecDepth 100000 in
theorem c_stop (l : Launch) (D : va_G) (sz : Nat) (r rc : Nat) (cR : ClassId) (f : Nat → Int32) (n z : Int32) (a : Int32) (ha : 0 ≤ a.toInt) (hn : r_ok n) : cM l yX4_stopOf (.code yX4_stopOf cX4_stopOf 4 (some .int)) 14 410 0 0 [.ref r, .int a] D [(cR, .int)] [(r, .inr (3, [.ref rc, .int n, .int z])), (rc, .inl (cR, 512, .inl f))] sz (S := Unit) (fun v _ => v = some (.int (r_stop f n 513 a 1))) (fun _ => [(r, .inr (3, [.ref rc, .int n, .int z])), (rc, .inl (cR, 512, .inl f))]) (fun _ => [(cR, .int)]) := by
  refine cM_of (by decide) (Nat.le_of_ble_eq_true rfl) ?_
  intro p e s m below meth c ls hF hsz hP hK hD hE hZ hA hl
  obtain ⟨hx, hb, hr, hml, hown, hlocks, hnm, htb, hts⟩ := hF
  have hown : s.vm.findClass RX4 = some m.cls := hown
  have hl : lv_has ls 4 [(0, .ref r), (1, .int a)] := hl
  have hS : va_S (va_A [(r, .inr (3, [.ref rc, .int n, .int z])), (rc, .inl (cR, 512, .inl f))] sz) s.heap s.heap [] := va_S.rf
  refine lv_iload_n hx hb dX4_stopOf_0 rfl (lv_at hl 1 rfl) ?_
  refine lv_istore_n (lv' := [(2, .int a), (0, .ref r), (1, .int a)]) hx hb dX4_stopOf_1 rfl hl (by decide) rfl (fun ls hl => ?_)
  refine lv_iconst (v := 1) hx hb dX4_stopOf_2 (by decide) ?_
  refine lv_istore_n (lv' := [(3, .int 1), (2, .int a), (0, .ref r), (1, .int a)]) hx hb dX4_stopOf_3 rfl hl (by decide) rfl (fun ls hl => ?_)
  refine stop_loop hx hb hml hown hts hE hZ hA hn hK 513 a 1 _ _ ls (by have q := i_le hn.2; rw [i512] at q; omega) hP hD hS (lv_sub hl [0, 1, 2] rfl) (fun H locs ls hP hD hS hl => ?_)
  refine lv_iload_n hx hb dX4_stopOf_35 rfl (lv_at hl 0 rfl) ?_
  exact ck_iret () hx hb hr rfl hlocks rfl (hP.sub [0, 1] rfl) (hK.sub [0] rfl) (hD.sub [0, 1] (by decide) rfl) hS (by decide) (by decide) dX4_stopOf_36
set_option maxHeartbeats 4000000 in
set_option maxRecDepth 100000 in
theorem part_loop {p : Program} {l : Launch} {e : Env} {s : State} {m : MethodId} {args : Array Value} {below : List Frame} {meth : Method} {c : Code} {Q : State → Prop} {D : va_G} {A : Nat → Prop} {r rc : Nat} {cR : ClassId} {f : Nat → Int32} {n z i : Int32} (hx : p.tables.exec = Jvm.exec) (hb : c.code = cX4_leavePart) (hml : c.maxLocals = 4) (hown : s.vm.findClass RX4 = some m.cls) (hts : ∀ w ∈ lw_G, w.before args s = true) (hE : ev s) (hZ : zz A s s.heap) (hA : ∀ q, s.heap.size ≤ q → A q) (hn : r_ok n) (hK : va_K D vwCl [(cR, .int)] s) :
    ∀ (t : Nat) (x b : Int32) (H : Heap) (locs : List Loc) (ls : Array Slot), (i.toInt - b.toInt).toNat = t → 0 ≤ x.toInt → va_P D vwCl [(r, .inr (3, [.ref rc, .int n, .int z])), (rc, .inl (cR, 512, .inl f))] H → va_D A [(r, .inr (3, [.ref rc, .int n, .int z])), (rc, .inl (cR, 512, .inl f))] → va_S A s.heap H locs → lv_has ls 4 [(3, .int b), (2, .int x), (1, .int i), (0, .ref r)] → (∀ (H : Heap) (locs : List Loc) (ls : Array Slot), va_P D vwCl [(r, .inr (3, [.ref rc, .int n, .int z])), (rc, .inl (cR, 512, .inl f))] H → va_D A [(r, .inr (3, [.ref rc, .int n, .int z])), (rc, .inl (cR, 512, .inl f))] → va_S A s.heap H locs → lv_has ls 4 [(2, .int (r_starts f n t x)), (0, .ref r)] → W p l e (rmK 16 480 0 0) s m args below meth c H locs 0 0 Q (F0 m 34 ls [])) → W p l e (rmK 16 480 0 0) s m args below meth c H locs 0 0 Q (F0 m 17 ls []) := by
  intro t
  induction t with
  | zero =>
    intro x b H locs ls ht hx0 hP hD hS hl kont
    refine lv_iload_n hx hb dX4_leavePart_17 rfl (lv_at hl 0 rfl) ?_
    refine lv_iload_n hx hb dX4_leavePart_18 rfl (lv_at hl 2 rfl) ?_
    refine lv_icmp_ge (tgt := 34) hx hb dX4_leavePart_19 (by decide) (fun _ => ?_) (fun c9 => absurd (i_part0 ht) c9)
    exact kont H locs ls hP hD hS (lv_sub hl [1, 3] rfl)
  | succ t ih =>
    intro x b H locs ls ht hx0 hP hD hS hl kont
    refine lv_iload_n hx hb dX4_leavePart_17 rfl (lv_at hl 0 rfl) ?_
    refine lv_iload_n hx hb dX4_leavePart_18 rfl (lv_at hl 2 rfl) ?_
    refine lv_icmp_ge (tgt := 34) hx hb dX4_leavePart_19 (by decide) (fun c9 => absurd c9 (i_part ht).1) (fun _ => ?_)
    refine lv_aload_n hx hb dX4_leavePart_22 rfl (lv_at hl 3 rfl) ?_
    refine lv_iload_n hx hb dX4_leavePart_23 rfl (lv_at hl 1 rfl) ?_
    refine ck_run (wr := []) (va_runV (C := RX4) (As := [.int x]) (rest := []) ⟨hx, hb, hml, hown, hts⟩ (c_stop l D H.size r rc cR f n z x hx0 hn) (cw_V (n := 1) hts tw_3_233 tw_3_235 tw_s41 tw_1_3 tw_3_236 (by decide +kernel) ⟨by decide, by decide⟩) ⟨pre.blind, va_recv (q := (RX4, TX4, 3)) hK hP (ci := 3) (q0 := 0) rfl rfl, fun U hU hW => ⟨rfl, pre.of (wc := [(r, .inr (3, [.ref rc, .int n, .int z])), (rc, .inl (cR, 512, .inl f))]) (tysc := [(cR, .int)]) (tk := [0]) hP hD hK hS hA hE hZ [0, 1] (by decide) rfl rfl rfl U hU hW⟩⟩ rfl rfl hl.1 rfl (lv_room (Nat.le_of_ble_eq_true rfl)) dX4_leavePart_24 ⟨by decide, by decide⟩) hP hD hK hS hA [0, 1] [] rfl rfl (by decide) (by decide) (fun v u H locs hw hP hD hK9 hS => ?_)
    have hw : v = some (.int (r_stop f n 513 x 1)) := hw
    subst hw
    have hP : va_P D vwCl [(r, .inr (3, [.ref rc, .int n, .int z])), (rc, .inl (cR, 512, .inl f))] H := hP
    have hD : va_D _ [(r, .inr (3, [.ref rc, .int n, .int z])), (rc, .inl (cR, 512, .inl f))] := hD
    refine W.eq (g2 := F0 m 27 ls [.int (r_stop f n 513 x 1)]) rfl ?_
    refine lv_istore_n (lv' := [(2, .int (r_stop f n 513 x 1)), (3, .int b), (1, .int i), (0, .ref r)]) hx hb dX4_leavePart_27 rfl hl (by decide) rfl (fun ls hl => ?_)
    obtain ⟨z_1, ez_1⟩ : ∃ z : Int32, z = b + 1 := ⟨_, rfl⟩
    refine lv_iinc (v := z_1) (lv' := [(3, .int z_1), (2, .int (r_stop f n 513 x 1)), (1, .int i), (0, .ref r)]) hx hb dX4_leavePart_28 hl (k := 1) rfl (by rw [ez_1]; rfl) (by decide) rfl (fun ls hl => ?_)
    refine lv_goto (tgt := 17) hx hb dX4_leavePart_31 (by decide) ?_
    subst ez_1
    exact ih (r_stop f n 513 x 1) (b + 1) H locs ls (i_part ht).2 (by have q := (r_stop_le (f := f) hn 513 x 1).1; omega) hP hD hS (lv_sub hl [0, 1, 2, 3] rfl) kont
set_option maxHeartbeats 4000000 in
set_option maxRecDepth 100000 in
theorem c_part (l : Launch) (D : va_G) (sz : Nat) (r rc : Nat) (cR : ClassId) (f : Nat → Int32) (n z : Int32) (i : Int32) (hn : r_ok n) : cM l yX4_leavePart (.code yX4_leavePart cX4_leavePart 4 none) 16 480 0 0 [.ref r, .int i] D [(cR, .int)] [(r, .inr (3, [.ref rc, .int n, .int z])), (rc, .inl (cR, 512, .inl f))] sz (S := (Nat → Int32) × Int32 × Int32) (fun v u => v = none ∧ r_part i f n z = (u.1, u.2.1, u.2.2)) (fun u => [(r, .inr (3, [.ref rc, .int u.2.1, .int u.2.2])), (rc, .inl (cR, 512, .inl u.1))]) (fun u => [(cR, .int)]) := by
  refine cM_of (by decide) (Nat.le_of_ble_eq_true rfl) ?_
  intro p e s m below meth c ls hF hsz hP hK hD hE hZ hA hl
  obtain ⟨hx, hb, hr, hml, hown, hlocks, hnm, htb, hts⟩ := hF
  have hown : s.vm.findClass RX4 = some m.cls := hown
  have hl : lv_has ls 4 [(0, .ref r), (1, .int i)] := hl
  have hS : va_S (va_A [(r, .inr (3, [.ref rc, .int n, .int z])), (rc, .inl (cR, 512, .inl f))] sz) s.heap s.heap [] := va_S.rf
  refine lv_aload_n hx hb dX4_leavePart_0 rfl (lv_at hl 0 rfl) ?_
  refine lv_iconst (v := 2) hx hb dX4_leavePart_1 (by decide) ?_
  refine lv_iconst (v := (-1)) hx hb dX4_leavePart_2 (by decide) ?_
  refine ck_run (wr := [(r, .inr (3, [.ref rc, .int n, .int z])), (rc, .inl (cR, 512, .inl f))]) (va_runS (As := [.int 2, .int (-1)]) (rest := [.ref r]) ⟨hx, hb, hml, hown, hts⟩ (c_of l D s.heap.size 2 (-1)) (cw_S (n := 2) hts tw_2_186 tw_2_60 tw_1_8 tw_2_61 (by decide +kernel) ⟨by decide, by decide⟩) ⟨pre.blind, fun U hU hW => ⟨rfl, pre.of (wc := []) (tysc := []) (tk := []) hP hD hK hS hA hE hZ [] (by decide) rfl rfl rfl U hU hW⟩⟩ rfl rfl hl.1 rfl (lv_room (Nat.le_of_ble_eq_true rfl)) dX4_leavePart_3 ⟨by decide, by decide⟩) hP hD hK hS hA [] [0, 1] rfl rfl (by decide) (by decide) (fun v u H locs hw hP hD hK9 hS => ?_)
  have hw : v = some (.int ((-1) <<< ((4 : Int32) &&& 31) ||| 2)) := hw
  subst hw
  have hP : va_P D vwCl [(r, .inr (3, [.ref rc, .int n, .int z])), (rc, .inl (cR, 512, .inl f))] H := hP
  have hD : va_D _ [(r, .inr (3, [.ref rc, .int n, .int z])), (rc, .inl (cR, 512, .inl f))] := hD
  refine W.eq (g2 := F0 m 6 ls [.int ((-1) <<< ((4 : Int32) &&& 31) ||| 2), .ref r]) rfl ?_
  refine ck_run (wr := []) (va_runV (C := RX4) (As := [.int ((-1) <<< ((4 : Int32) &&& 31) ||| 2)]) (rest := []) ⟨hx, hb, hml, hown, hts⟩ (c_body l D H.size r rc cR f n z ((-1) <<< ((4 : Int32) &&& 31) ||| 2) hn) (cw_V (n := 1) hts tw_3_74 tw_3_76 tw_s31 tw_1_3 tw_3_77 (by decide +kernel) ⟨by decide, by decide⟩) ⟨pre.blind, va_recv (q := (RX4, TX4, 3)) hK hP (ci := 3) (q0 := 0) rfl rfl, fun U hU hW => ⟨rfl, pre.of (wc := [(r, .inr (3, [.ref rc, .int n, .int z])), (rc, .inl (cR, 512, .inl f))]) (tysc := [(cR, .int)]) (tk := [0]) hP hD hK hS hA hE hZ [0, 1] (by decide) rfl rfl rfl U hU hW⟩⟩ rfl rfl hl.1 rfl (lv_room (Nat.le_of_ble_eq_true rfl)) dX4_leavePart_6 ⟨by decide, by decide⟩) hP hD hK hS hA [0, 1] [] rfl rfl (by decide) (by decide) (fun v u H locs hw hP hD hK9 hS => ?_)
  obtain ⟨f1_1, n1_2, z1_3⟩ := u
  have hw : v = some (.int (r_isAll f)) ∧ r_body ((-1) <<< ((4 : Int32) &&& 31) ||| 2) f n z = (f1_1, n1_2, z1_3) := hw
  obtain ⟨rfl, hq_4⟩ := hw
  have hP : va_P D vwCl [(r, .inr (3, [.ref rc, .int n1_2, .int z1_3])), (rc, .inl (cR, 512, .inl f1_1))] H := hP
  have hD : va_D _ [(r, .inr (3, [.ref rc, .int n1_2, .int z1_3])), (rc, .inl (cR, 512, .inl f1_1))] := hD
  refine W.eq (g2 := F0 m 9 ls [.int (r_isAll f)]) rfl ?_
  refine lv_if_eq (tgt := 13) hx hb dX4_leavePart_9 (by decide) (fun c_9 => ?_) (fun c_9 => ?_)
  · obtain ⟨e1, e2, e3⟩ := r_body_no c_9 hq_4
    subst e1 e2 e3
    refine lv_iconst (v := 1) hx hb dX4_leavePart_13 (by decide) ?_
    refine lv_istore_n (lv' := [(2, .int 1), (0, .ref r), (1, .int i)]) hx hb dX4_leavePart_14 rfl hl (by decide) rfl (fun ls hl => ?_)
    refine lv_iconst (v := 0) hx hb dX4_leavePart_15 (by decide) ?_
    refine lv_istore_n (lv' := [(3, .int 0), (2, .int 1), (0, .ref r), (1, .int i)]) hx hb dX4_leavePart_16 rfl hl (by decide) rfl (fun ls hl => ?_)
    refine part_loop hx hb hml hown hts hE hZ hA hn hK i.toNatClampNeg 1 0 H _ ls (by rw [i0, i_clamp, Int.sub_zero]) (by decide) hP hD hS (lv_sub hl [0, 1, 3, 2] rfl) (fun H locs ls hP hD hS hl => ?_)
    refine lv_aload_n hx hb dX4_leavePart_34 rfl (lv_at hl 1 rfl) ?_
    refine lv_iload_n hx hb dX4_leavePart_35 rfl (lv_at hl 0 rfl) ?_
    refine ck_run (wr := []) (va_runV (C := RX4) (As := [.int (r_starts f n i.toNatClampNeg 1)]) (rest := []) ⟨hx, hb, hml, hown, hts⟩ (c_stop l D H.size r rc cR f n z (r_starts f n i.toNatClampNeg 1) (r_starts_ge hn _ 1 (by decide)) hn) (cw_V (n := 1) hts tw_3_233 tw_3_235 tw_s41 tw_1_3 tw_3_236 (by decide +kernel) ⟨by decide, by decide⟩) ⟨pre.blind, va_recv (q := (RX4, TX4, 3)) hK hP (ci := 3) (q0 := 0) rfl rfl, fun U hU hW => ⟨rfl, pre.of (wc := [(r, .inr (3, [.ref rc, .int n, .int z])), (rc, .inl (cR, 512, .inl f))]) (tysc := [(cR, .int)]) (tk := [0]) hP hD hK hS hA hE hZ [0, 1] (by decide) rfl rfl rfl U hU hW⟩⟩ rfl rfl hl.1 rfl (lv_room (Nat.le_of_ble_eq_true rfl)) dX4_leavePart_36 ⟨by decide, by decide⟩) hP hD hK hS hA [0, 1] [] rfl rfl (by decide) (by decide) (fun v u H locs hw hP hD hK9 hS => ?_)
    have hw : v = some (.int (r_stop f n 513 (r_starts f n i.toNatClampNeg 1) 1)) := hw
    subst hw
    have hP : va_P D vwCl [(r, .inr (3, [.ref rc, .int n, .int z])), (rc, .inl (cR, 512, .inl f))] H := hP
    have hD : va_D _ [(r, .inr (3, [.ref rc, .int n, .int z])), (rc, .inl (cR, 512, .inl f))] := hD
    refine W.eq (g2 := F0 m 39 ls [.int (r_stop f n 513 (r_starts f n i.toNatClampNeg 1) 1)]) rfl ?_
    refine lv_istore_n (lv' := [(3, .int (r_stop f n 513 (r_starts f n i.toNatClampNeg 1) 1)), (2, .int (r_starts f n i.toNatClampNeg 1)), (0, .ref r)]) hx hb dX4_leavePart_39 rfl hl (by decide) rfl (fun ls hl => ?_)
    refine lv_aload_n hx hb dX4_leavePart_40 rfl (lv_at hl 2 rfl) ?_
    refine lv_iload_n hx hb dX4_leavePart_41 rfl (lv_at hl 1 rfl) ?_
    refine ck_run (wr := []) (va_runV (C := RX4) (As := [.int (r_starts f n i.toNatClampNeg 1)]) (rest := []) ⟨hx, hb, hml, hown, hts⟩ (c_drop l D H.size r rc cR f n z (r_starts f n i.toNatClampNeg 1) hn) (cw_V (n := 1) hts tw_2_145 tw_2_147 tw_s13 tw_1_3 tw_2_148 (by decide +kernel) ⟨by decide, by decide⟩) ⟨pre.blind, va_recv (q := (RX4, TX4, 3)) hK hP (ci := 3) (q0 := 0) rfl rfl, fun U hU hW => ⟨rfl, pre.of (wc := [(r, .inr (3, [.ref rc, .int n, .int z])), (rc, .inl (cR, 512, .inl f))]) (tysc := [(cR, .int)]) (tk := [0]) hP hD hK hS hA hE hZ [0, 1] (by decide) rfl rfl rfl U hU hW⟩⟩ rfl rfl hl.1 rfl (lv_room (Nat.le_of_ble_eq_true rfl)) dX4_leavePart_42 ⟨by decide, by decide⟩) hP hD hK hS hA [0, 1] [] rfl rfl (by decide) (by decide) (fun v u H locs hw hP hD hK9 hS => ?_)
    obtain ⟨f1_5, n1_6, z1_7⟩ := u
    have hw : v = none ∧ r_drop (r_starts f n i.toNatClampNeg 1) f n z = (f1_5, n1_6, z1_7) := hw
    obtain ⟨rfl, hq_8⟩ := hw
    have hP : va_P D vwCl [(r, .inr (3, [.ref rc, .int n1_6, .int z1_7])), (rc, .inl (cR, 512, .inl f1_5))] H := hP
    have hD : va_D _ [(r, .inr (3, [.ref rc, .int n1_6, .int z1_7])), (rc, .inl (cR, 512, .inl f1_5))] := hD
    refine W.eq (g2 := F0 m 45 ls []) rfl ?_
    refine lv_aload_n hx hb dX4_leavePart_45 rfl (lv_at hl 2 rfl) ?_
    refine lv_iconst (v := 1) hx hb dX4_leavePart_46 (by decide) ?_
    refine lv_iload_n hx hb dX4_leavePart_47 rfl (lv_at hl 0 rfl) ?_
    refine lv_iload_n hx hb dX4_leavePart_48 rfl (lv_at hl 1 rfl) ?_
    refine lv_isub hx hb dX4_leavePart_49 ?_
    refine ck_top (y := r_stop f n 513 (r_starts f n i.toNatClampNeg 1) 1 - r_starts f n i.toNatClampNeg 1) rfl ?_
    refine va_mmax hx hb (hml.trans hl.1.symm) hown (hts _ tw_xml) (hts _ tw_xms) (hts _ tw_mmi) (hts _ tw_xmc) (by decide) (Nat.le_of_ble_eq_true rfl) (Nat.le_of_ble_eq_true rfl) (Nat.le_of_ble_eq_true rfl) dX4_leavePart_50 ?_
    refine ck_top (y := r_max 1 (r_stop f n 513 (r_starts f n i.toNatClampNeg 1) 1 - r_starts f n i.toNatClampNeg 1)) rfl ?_
    refine va_put (ci := 3) (v := .int (r_max 1 (r_stop f n 513 (r_starts f n i.toNatClampNeg 1) 1 - r_starts f n i.toNatClampNeg 1))) (ty := .int) (C := RX4) (T := TX4) (N := 3) hx hb hts inG_X4 tyX4 tyX4_ok nmX4 hown hK hP hD hS 0 rfl rfl 1 (by decide) (hts _ tw_1_62) (fun _ h9 => h9) rfl (by decide +kernel) rfl rfl (Nat.le_of_ble_eq_true rfl) dX4_leavePart_53 (fun H locs hP hD hS => ?_)
    have hP : va_P D vwCl [(r, .inr (3, [.ref rc, .int (r_max 1 (r_stop f n 513 (r_starts f n i.toNatClampNeg 1) 1 - r_starts f n i.toNatClampNeg 1)), .int z1_7])), (rc, .inl (cR, 512, .inl f1_5))] H := hP
    have hD : va_D _ [(r, .inr (3, [.ref rc, .int (r_max 1 (r_stop f n 513 (r_starts f n i.toNatClampNeg 1) 1 - r_starts f n i.toNatClampNeg 1)), .int z1_7])), (rc, .inl (cR, 512, .inl f1_5))] := hD
    exact ck_vret ⟨f1_5, r_max 1 (r_stop f n 513 (r_starts f n i.toNatClampNeg 1) 1 - r_starts f n i.toNatClampNeg 1), z1_7⟩ hx hb hr hlocks ⟨rfl, (by unfold r_part; rw [if_pos c_9, hq_8])⟩ (hP.sub [0, 1] rfl) (hK.sub [0] rfl) (hD.sub [0, 1] (by decide) rfl) hS (by decide) (by decide) dX4_leavePart_56
  · exact ck_vret ⟨f1_1, n1_2, z1_3⟩ hx hb hr hlocks ⟨rfl, (by unfold r_part; rw [if_neg c_9]; exact hq_4)⟩ (hP.sub [0, 1] rfl) (hK.sub [0] rfl) (hD.sub [0, 1] (by decide) rfl) hS (by decide) (by decide) dX4_leavePart_12
