set_option maxHeartbeats 4000000 in
set_option maxRecDepth 100000 in
theorem open_loop {p : Program} {l : Launch} {e : Env} {s : State} {m : MethodId} {args : Array Value} {below : List Frame} {meth : Method} {c : Code} {Q : State → Prop} {D : va_G} {A : Nat → Prop} {r rc : Nat} {cR : ClassId} {F : Nat → Int32} {n z : Int32} {c_ d pl : Int32} {po : va_W} (hx : p.tables.exec = Jvm.exec) (hb : c.code = cX4_open) (hml : c.maxLocals = 6) (hown : s.vm.findClass RX4 = some m.cls) (hts : ∀ w ∈ lw_G, w.before args s = true) (hE : ev s) (hZ : zz A s s.heap) (hA : ∀ q, s.heap.size ≤ q → A q) (hn : r_ok n) (hK : va_K D vwCl [(cR, .int)] s) (kont : ∀ (H : Heap) (locs : List Loc) (ls : Array Slot), va_P D vwCl ([(r, .inr (3, [.ref rc, .int n, .int z])), (rc, .inl (cR, 512, .inl (mapTo (b_open c_ d) F n.toNatClampNeg)))] ++ po) H → va_D A ([(r, .inr (3, [.ref rc, .int n, .int z])), (rc, .inl (cR, 512, .inl (mapTo (b_open c_ d) F n.toNatClampNeg)))] ++ po) → va_S A s.heap H locs → lv_has ls 6 [(4, .int d), (3, .int c_), (2, .int pl), (0, .ref r)] → W p l e (rmK 16 480 0 0) s m args below meth c H locs 0 0 Q (F0 m 93 ls [])) :
    ∀ (k i : Nat) (H : Heap) (locs : List Loc) (ls : Array Slot), i + k = n.toNatClampNeg → va_P D vwCl ([(r, .inr (3, [.ref rc, .int n, .int z])), (rc, .inl (cR, 512, .inl (mapTo (b_open c_ d) F i)))] ++ po) H → va_D A ([(r, .inr (3, [.ref rc, .int n, .int z])), (rc, .inl (cR, 512, .inl (mapTo (b_open c_ d) F i)))] ++ po) → va_S A s.heap H locs → lv_has ls 6 [(5, .int (nI i)), (4, .int d), (3, .int c_), (2, .int pl), (0, .ref r)] → W p l e (rmK 16 480 0 0) s m args below meth c H locs 0 0 Q (F0 m 30 ls []) := by
  obtain ⟨N, hN1, hN2, eN, eC⟩ := r_nat hn
  intro k
  induction k with
  | zero =>
    intro i H locs ls hi hP hD hS hl
    refine lv_iload hx hb dX4_open_30 (lv_at hl 0 rfl) ?_
    refine lv_aload_n hx hb dX4_open_32 rfl (lv_at hl 4 rfl) ?_
    refine va_get (ci := 3) (v := .int n) (C := RX4) (T := TX4) (N := 3) hx hb hts inG_X4 hown hK hP 0 rfl rfl 1 (by decide) (hts _ tw_1_62) (fun _ h9 => h9) rfl dX4_open_33 ?_
    refine lv_icmp_ge (tgt := 93) hx hb dX4_open_36 (by decide) (fun _ => ?_) (fun c9 => absurd (by rw [eN, show i = N by omega]; exact Int32.le_refl _) c9)
    have ei : i = n.toNatClampNeg := by omega
    rw [ei] at hP hD
    exact kont H locs ls hP hD hS (lv_sub hl [1, 2, 3, 4] rfl)
  | succ k ih =>
    intro i H locs ls hi hP hD hS hl
    refine lv_iload hx hb dX4_open_30 (lv_at hl 0 rfl) ?_
    refine lv_aload_n hx hb dX4_open_32 rfl (lv_at hl 4 rfl) ?_
    refine va_get (ci := 3) (v := .int n) (C := RX4) (T := TX4) (N := 3) hx hb hts inG_X4 hown hK hP 0 rfl rfl 1 (by decide) (hts _ tw_1_62) (fun _ h9 => h9) rfl dX4_open_33 ?_
    refine lv_icmp_ge (tgt := 93) hx hb dX4_open_36 (by decide) (fun c9 => absurd c9 (by rw [eN]; exact nI_ge (by omega) (by omega))) (fun _ => ?_)
    refine lv_iload hx hb dX4_open_39 (lv_at hl 0 rfl) ?_
    refine lv_sipush (v := 512) hx hb dX4_open_41 (by decide) ?_
    refine lv_icmp_ge (tgt := 93) hx hb dX4_open_44 (by decide) (fun c9 => absurd c9 (by rw [show (512 : Int32) = nI 512 from rfl]; exact nI_ge (by omega) (by decide))) (fun _ => ?_)
    refine lv_aload_n hx hb dX4_open_47 rfl (lv_at hl 4 rfl) ?_
    refine va_get (ci := 3) (v := .ref rc) (C := RX4) (T := TX4) (N := 3) hx hb hts inG_X4 hown hK hP 0 rfl rfl 0 (by decide) (hts _ tw_1_61) (fun _ h9 => h9) rfl dX4_open_48 ?_
    refine lv_iload hx hb dX4_open_51 (lv_at hl 0 rfl) ?_
    refine va_iald hx hb hK hP 1 0 rfl rfl (by rw [vp_in_iff, nI_toInt (by omega)]; omega) dX4_open_53 ?_
    refine ck_top (y := F i) (by rw [nI_clamp (by omega)]; exact mapTo_at _ _ _) ?_
    refine ck_runQ (wr := [(r, .inr (3, [.ref rc, .int n, .int z])), (rc, .inl (cR, 512, .inl (mapTo (b_open c_ d) F i)))]) (va_runS (As := [.int (F i)]) (rest := []) ⟨hx, hb, hml, hown, hts⟩ (c_kind l D H.size (F i)) (cw_S (n := 1) hts tw_2_177 tw_1_101 tw_1_8 tw_1_102 (by decide +kernel) ⟨by decide, by decide⟩) ⟨pre.blind, fun U hU hW => ⟨rfl, pre.of (wc := []) (tysc := []) (tk := []) hP.left hD.left hK hS hA hE hZ [] (by decide) rfl rfl rfl U hU hW⟩⟩ rfl rfl hl.1 rfl (lv_room (Nat.le_of_ble_eq_true rfl)) dX4_open_54 ⟨by decide, by decide⟩) hP hD hK hS hA [] [0, 1] rfl rfl (by decide) (by decide) (fun v u H locs hw hP hD hK9 hS => ?_)
    have hw : v = some (.int ((F i) &&& 15)) := hw
    subst hw
    have hP : va_P D vwCl ([(r, .inr (3, [.ref rc, .int n, .int z])), (rc, .inl (cR, 512, .inl (mapTo (b_open c_ d) F i)))] ++ po) H := hP
    have hD : va_D _ ([(r, .inr (3, [.ref rc, .int n, .int z])), (rc, .inl (cR, 512, .inl (mapTo (b_open c_ d) F i)))] ++ po) := hD
    refine W.eq (g2 := F0 m 57 ls [.int ((F i) &&& 15)]) rfl ?_
    refine lv_iconst (v := 1) hx hb dX4_open_57 (by decide) ?_
    refine lv_icmp_ne (tgt := 87) hx hb dX4_open_58 (by decide) (fun c_58 => ?_) (fun c_58 => ?_)
    · obtain ⟨z_1, ez_1⟩ : ∃ z : Int32, z = (nI i) + 1 := ⟨_, rfl⟩
      refine lv_iinc (v := z_1) (lv' := [(5, .int z_1), (4, .int d), (3, .int c_), (2, .int pl), (0, .ref r)]) hx hb dX4_open_87 hl (k := 0) rfl (by rw [ez_1]; rfl) (by decide) rfl (fun ls hl => ?_)
      refine lv_goto (tgt := 30) hx hb dX4_open_90 (by decide) ?_
      have ez : z_1 = nI (i + 1) := by rw [ez_1]; exact nI_1 i
      subst ez
      have ef : mapTo (b_open c_ d) F i = mapTo (b_open c_ d) F (i + 1) := mapTo_same (by unfold b_open; rw [if_neg c_58])
      rw [ef] at hP hD
      exact ih (i + 1) H _ ls (by omega) (hP.part [0, 1] rfl) (hD.part [0, 1] (by decide) rfl) hS (lv_sub hl [0, 1, 2, 3, 4] rfl)
    · refine lv_aload_n hx hb dX4_open_61 rfl (lv_at hl 4 rfl) ?_
      refine va_get (ci := 3) (v := .ref rc) (C := RX4) (T := TX4) (N := 3) hx hb hts inG_X4 hown hK hP 0 rfl rfl 0 (by decide) (hts _ tw_1_61) (fun _ h9 => h9) rfl dX4_open_62 ?_
      refine lv_iload hx hb dX4_open_65 (lv_at hl 0 rfl) ?_
      refine lv_aload_n hx hb dX4_open_67 rfl (lv_at hl 4 rfl) ?_
      refine va_get (ci := 3) (v := .ref rc) (C := RX4) (T := TX4) (N := 3) hx hb hts inG_X4 hown hK hP 0 rfl rfl 0 (by decide) (hts _ tw_1_61) (fun _ h9 => h9) rfl dX4_open_68 ?_
      refine lv_iload hx hb dX4_open_71 (lv_at hl 0 rfl) ?_
      refine va_iald hx hb hK hP 1 0 rfl rfl (by rw [vp_in_iff, nI_toInt (by omega)]; omega) dX4_open_73 ?_
      refine ck_top (y := F i) (by rw [nI_clamp (by omega)]; exact mapTo_at _ _ _) ?_
      refine ck_runQ (wr := [(r, .inr (3, [.ref rc, .int n, .int z])), (rc, .inl (cR, 512, .inl (mapTo (b_open c_ d) F i)))]) (va_runS (As := [.int (F i)]) (rest := [.int (nI i), .ref rc]) ⟨hx, hb, hml, hown, hts⟩ (c_value l D H.size (F i)) (cw_S (n := 1) hts tw_2_185 tw_1_98 tw_1_8 tw_1_99 (by decide +kernel) ⟨by decide, by decide⟩) ⟨pre.blind, fun U hU hW => ⟨rfl, pre.of (wc := []) (tysc := []) (tk := []) hP.left hD.left hK hS hA hE hZ [] (by decide) rfl rfl rfl U hU hW⟩⟩ rfl rfl hl.1 rfl (lv_room (Nat.le_of_ble_eq_true rfl)) dX4_open_74 ⟨by decide, by decide⟩) hP hD hK hS hA [] [0, 1] rfl rfl (by decide) (by decide) (fun v u H locs hw hP hD hK9 hS => ?_)
      have hw : v = some (.int ((F i) >>> ((4 : Int32) &&& 31))) := hw
      subst hw
      have hP : va_P D vwCl ([(r, .inr (3, [.ref rc, .int n, .int z])), (rc, .inl (cR, 512, .inl (mapTo (b_open c_ d) F i)))] ++ po) H := hP
      have hD : va_D _ ([(r, .inr (3, [.ref rc, .int n, .int z])), (rc, .inl (cR, 512, .inl (mapTo (b_open c_ d) F i)))] ++ po) := hD
      refine W.eq (g2 := F0 m 77 ls [.int ((F i) >>> ((4 : Int32) &&& 31)), .int (nI i), .ref rc]) rfl ?_
      refine lv_if_ne (tgt := 84) hx hb dX4_open_77 (by decide) (fun c_77 => ?_) (fun c_77 => ?_)
      · refine lv_iload hx hb dX4_open_84 (lv_at hl 1 rfl) ?_
        refine va_iast hx hb hK hP hD hS 1 0 rfl rfl (by rw [vp_in_iff, nI_toInt (by omega)]; omega) dX4_open_86 (fun H locs hP hD hS => ?_)
        have hP : va_P D vwCl ([(r, .inr (3, [.ref rc, .int n, .int z])), (rc, .inl (cR, 512, .inl (upd (mapTo (b_open c_ d) F i) ((nI i).toNatClampNeg) d)))] ++ po) H := hP
        have hD : va_D _ ([(r, .inr (3, [.ref rc, .int n, .int z])), (rc, .inl (cR, 512, .inl (upd (mapTo (b_open c_ d) F i) ((nI i).toNatClampNeg) d)))] ++ po) := hD
        obtain ⟨z_2, ez_2⟩ : ∃ z : Int32, z = (nI i) + 1 := ⟨_, rfl⟩
        refine lv_iinc (v := z_2) (lv' := [(5, .int z_2), (4, .int d), (3, .int c_), (2, .int pl), (0, .ref r)]) hx hb dX4_open_87 hl (k := 0) rfl (by rw [ez_2]; rfl) (by decide) rfl (fun ls hl => ?_)
        refine lv_goto (tgt := 30) hx hb dX4_open_90 (by decide) ?_
        have ez : z_2 = nI (i + 1) := by rw [ez_2]; exact nI_1 i
        subst ez
        have ef : upd (mapTo (b_open c_ d) F i) ((nI i).toNatClampNeg) d = mapTo (b_open c_ d) F (i + 1) := by rw [nI_clamp (show i < 2 ^ 31 by omega)]; exact mapTo_up (by unfold b_open; rw [if_pos c_58, if_neg c_77])
        rw [ef] at hP hD
        exact ih (i + 1) H _ ls (by omega) (hP.part [0, 1] rfl) (hD.part [0, 1] (by decide) rfl) hS (lv_sub hl [0, 1, 2, 3, 4] rfl)
      · refine lv_iload_n hx hb dX4_open_80 rfl (lv_at hl 2 rfl) ?_
        refine lv_goto (tgt := 86) hx hb dX4_open_81 (by decide) ?_
        refine va_iast hx hb hK hP hD hS 1 0 rfl rfl (by rw [vp_in_iff, nI_toInt (by omega)]; omega) dX4_open_86 (fun H locs hP hD hS => ?_)
        have hP : va_P D vwCl ([(r, .inr (3, [.ref rc, .int n, .int z])), (rc, .inl (cR, 512, .inl (upd (mapTo (b_open c_ d) F i) ((nI i).toNatClampNeg) c_)))] ++ po) H := hP
        have hD : va_D _ ([(r, .inr (3, [.ref rc, .int n, .int z])), (rc, .inl (cR, 512, .inl (upd (mapTo (b_open c_ d) F i) ((nI i).toNatClampNeg) c_)))] ++ po) := hD
        obtain ⟨z_3, ez_3⟩ : ∃ z : Int32, z = (nI i) + 1 := ⟨_, rfl⟩
        refine lv_iinc (v := z_3) (lv' := [(5, .int z_3), (4, .int d), (3, .int c_), (2, .int pl), (0, .ref r)]) hx hb dX4_open_87 hl (k := 0) rfl (by rw [ez_3]; rfl) (by decide) rfl (fun ls hl => ?_)
        refine lv_goto (tgt := 30) hx hb dX4_open_90 (by decide) ?_
        have ez : z_3 = nI (i + 1) := by rw [ez_3]; exact nI_1 i
        subst ez
        have ef : upd (mapTo (b_open c_ d) F i) ((nI i).toNatClampNeg) c_ = mapTo (b_open c_ d) F (i + 1) := by rw [nI_clamp (show i < 2 ^ 31 by omega)]; exact mapTo_up (by unfold b_open; rw [if_pos c_58, if_pos c_77])
        rw [ef] at hP hD
        exact ih (i + 1) H _ ls (by omega) (hP.part [0, 1] rfl) (hD.part [0, 1] (by decide) rfl) hS (lv_sub hl [0, 1, 2, 3, 4] rfl)
set_option maxHeartbeats 4000000 in
set_option maxRecDepth 100000 in
theorem c_open (l : Launch) (D : va_G) (sz : Nat) (r rc : Nat) (cR : ClassId) (f : Nat → Int32) (n z : Int32) (po : va_W) (j i : Nat) (o q : Nat) (N : Nat) (g : Nat → Int32) (w lo : Int32) (hgo : po[i]? = some (o, .inr (1, [.ref q, .int w, .int lo]))) (hgc : po[j]? = some (q, .inl (cR, N, .inl g))) (hN : 1 ≤ N ∧ N ≤ 512) (hn : r_ok n) : cM l yX4_open (.code yX4_open cX4_open 6 none) 16 480 0 0 [.ref r, .ref o] D [(cR, .int)] ([(r, .inr (3, [.ref rc, .int n, .int z])), (rc, .inl (cR, 512, .inl f))] ++ po) sz (S := (Nat → Int32) × Int32 × Int32) (fun v u => v = none ∧ r_open g N f n z = (u.1, u.2.1, u.2.2)) (fun u => ([(r, .inr (3, [.ref rc, .int u.2.1, .int u.2.2])), (rc, .inl (cR, 512, .inl u.1))] ++ po)) (fun u => [(cR, .int)]) := by
  refine cM_of (by decide) (Nat.le_of_ble_eq_true rfl) ?_
  intro p e s m below meth c ls hF hsz hP hK hD hE hZ hA hl
  obtain ⟨hx, hb, hr, hml, hown, hlocks, hnm, htb, hts⟩ := hF
  have hown : s.vm.findClass RX4 = some m.cls := hown
  have hl : lv_has ls 6 [(0, .ref r), (1, .ref o)] := hl
  have hS : va_S (va_A ([(r, .inr (3, [.ref rc, .int n, .int z])), (rc, .inl (cR, 512, .inl f))] ++ po) sz) s.heap s.heap [] := va_S.rf
  refine lv_aload_n hx hb dX4_open_0 rfl (lv_at hl 0 rfl) ?_
  refine ck_runQ (wr := []) (va_runV (C := RX4) (As := []) (rest := []) ⟨hx, hb, hml, hown, hts⟩ (c_place l D s.heap.size r rc cR f n z) (cw_V (n := 0) hts tw_3_98 tw_3_100 tw_s35 tw_1_3 tw_3_101 (by decide +kernel) ⟨by decide, by decide⟩) ⟨pre.blind, va_recv (q := (RX4, TX4, 3)) hK hP (ci := 3) (q0 := 0) rfl rfl, fun U hU hW => ⟨rfl, pre.of (wc := [(r, .inr (3, [.ref rc, .int n, .int z])), (rc, .inl (cR, 512, .inl f))]) (tysc := [(cR, .int)]) (tk := [0]) hP.left hD.left hK hS hA hE hZ [0, 1] (by decide) rfl rfl rfl U hU hW⟩⟩ rfl rfl hl.1 rfl (lv_room (Nat.le_of_ble_eq_true rfl)) dX4_open_1 ⟨by decide, by decide⟩) hP hD hK hS hA [0, 1] [] rfl rfl (by decide) (by decide) (fun v u H locs hw hP hD hK9 hS => ?_)
  have hw : v = some (.int (r_place f)) := hw
  subst hw
  have hP : va_P D vwCl ([(r, .inr (3, [.ref rc, .int n, .int z])), (rc, .inl (cR, 512, .inl f))] ++ po) H := hP
  have hD : va_D _ ([(r, .inr (3, [.ref rc, .int n, .int z])), (rc, .inl (cR, 512, .inl f))] ++ po) := hD
  refine W.eq (g2 := F0 m 4 ls [.int (r_place f)]) rfl ?_
  refine lv_istore_n (lv' := [(2, .int (r_place f)), (0, .ref r), (1, .ref o)]) hx hb dX4_open_4 rfl hl (by decide) rfl (fun ls hl => ?_)
  refine lv_aload_n hx hb dX4_open_5 rfl (lv_at hl 1 rfl) ?_
  refine lv_iload_n hx hb dX4_open_6 rfl (lv_at hl 0 rfl) ?_
  refine lv_iconst (v := 1) hx hb dX4_open_7 (by decide) ?_
  refine lv_iadd hx hb dX4_open_8 ?_
  refine ck_top (y := r_place f + 1) rfl ?_
  refine ck_runQ (wr := []) (va_runV (C := RX4) (As := [.int (r_place f + 1)]) (rest := []) ⟨hx, hb, hml, hown, hts⟩ (c_codeAt l D H.size r rc cR f n z (r_place f + 1)) (cw_V (n := 1) hts tw_3_102 tw_3_104 tw_s36 tw_1_3 tw_3_105 (by decide +kernel) ⟨by decide, by decide⟩) ⟨pre.blind, va_recv (q := (RX4, TX4, 3)) hK hP (ci := 3) (q0 := 0) rfl rfl, fun U hU hW => ⟨rfl, pre.of (wc := [(r, .inr (3, [.ref rc, .int n, .int z])), (rc, .inl (cR, 512, .inl f))]) (tysc := [(cR, .int)]) (tk := [0]) hP.left hD.left hK hS hA hE hZ [0, 1] (by decide) rfl rfl rfl U hU hW⟩⟩ rfl rfl hl.1 rfl (lv_room (Nat.le_of_ble_eq_true rfl)) dX4_open_9 ⟨by decide, by decide⟩) hP hD hK hS hA [0, 1] [] rfl rfl (by decide) (by decide) (fun v u H locs hw hP hD hK9 hS => ?_)
  have hw : v = some (.int (r_codeAt (r_place f + 1) f n)) := hw
  subst hw
  have hP : va_P D vwCl ([(r, .inr (3, [.ref rc, .int n, .int z])), (rc, .inl (cR, 512, .inl f))] ++ po) H := hP
  have hD : va_D _ ([(r, .inr (3, [.ref rc, .int n, .int z])), (rc, .inl (cR, 512, .inl f))] ++ po) := hD
  refine W.eq (g2 := F0 m 12 ls [.int (r_codeAt (r_place f + 1) f n)]) rfl ?_
  refine lv_istore_n (lv' := [(3, .int (r_codeAt (r_place f + 1) f n)), (2, .int (r_place f)), (0, .ref r), (1, .ref o)]) hx hb dX4_open_12 rfl hl (by decide) rfl (fun ls hl => ?_)
  refine lv_aload_n hx hb dX4_open_13 rfl (lv_at hl 2 rfl) ?_
  refine lv_iload_n hx hb dX4_open_14 rfl (lv_at hl 1 rfl) ?_
  refine lv_iconst (v := 2) hx hb dX4_open_15 (by decide) ?_
  refine lv_iadd hx hb dX4_open_16 ?_
  refine ck_top (y := r_place f + 2) rfl ?_
  refine ck_runQ (wr := []) (va_runV (C := RX4) (As := [.int (r_place f + 2)]) (rest := []) ⟨hx, hb, hml, hown, hts⟩ (c_codeAt l D H.size r rc cR f n z (r_place f + 2)) (cw_V (n := 1) hts tw_3_102 tw_3_104 tw_s36 tw_1_3 tw_3_105 (by decide +kernel) ⟨by decide, by decide⟩) ⟨pre.blind, va_recv (q := (RX4, TX4, 3)) hK hP (ci := 3) (q0 := 0) rfl rfl, fun U hU hW => ⟨rfl, pre.of (wc := [(r, .inr (3, [.ref rc, .int n, .int z])), (rc, .inl (cR, 512, .inl f))]) (tysc := [(cR, .int)]) (tk := [0]) hP.left hD.left hK hS hA hE hZ [0, 1] (by decide) rfl rfl rfl U hU hW⟩⟩ rfl rfl hl.1 rfl (lv_room (Nat.le_of_ble_eq_true rfl)) dX4_open_17 ⟨by decide, by decide⟩) hP hD hK hS hA [0, 1] [] rfl rfl (by decide) (by decide) (fun v u H locs hw hP hD hK9 hS => ?_)
  have hw : v = some (.int (r_codeAt (r_place f + 2) f n)) := hw
  subst hw
  have hP : va_P D vwCl ([(r, .inr (3, [.ref rc, .int n, .int z])), (rc, .inl (cR, 512, .inl f))] ++ po) H := hP
  have hD : va_D _ ([(r, .inr (3, [.ref rc, .int n, .int z])), (rc, .inl (cR, 512, .inl f))] ++ po) := hD
  refine W.eq (g2 := F0 m 20 ls [.int (r_codeAt (r_place f + 2) f n)]) rfl ?_
  refine lv_istore (lv' := [(4, .int (r_codeAt (r_place f + 2) f n)), (3, .int (r_codeAt (r_place f + 1) f n)), (2, .int (r_place f)), (0, .ref r), (1, .ref o)]) hx hb dX4_open_20 hl (by decide) rfl (fun ls hl => ?_)
  refine lv_aload_n hx hb dX4_open_22 rfl (lv_at hl 3 rfl) ?_
  refine lv_aload_n hx hb dX4_open_23 rfl (lv_at hl 4 rfl) ?_
  have hP : va_P D vwCl ([(r, .inr (3, [.ref rc, .int n, .int z])), (rc, .inl (cR, 512, .inl f))] ++ po) H := hP
  have hD : va_D _ ([(r, .inr (3, [.ref rc, .int n, .int z])), (rc, .inl (cR, 512, .inl f))] ++ po) := hD
  refine ck_runP (wr := []) (rx := fun u => [(r, .inr (3, [.ref rc, .int u.2.1, .int u.2.2])), (rc, .inl (cR, 512, .inl u.1))]) (pl1 := fun u => po) (va_runV (C := RX4) (As := [.ref o]) (rest := []) ⟨hx, hb, hml, hown, hts⟩ (c_load l D H.size r rc cR f n z po j i o q N g w lo hgo hgc hN hn) (cw_V (n := 1) hts tw_3_115 tw_2_132 tw_2_133 tw_1_3 tw_2_134 (by decide +kernel) ⟨by decide, by decide⟩) ⟨pre.blind, va_recv (q := (RX4, TX4, 3)) hK hP (ci := 3) (q0 := 0) rfl rfl, fun U hU hW => ⟨rfl, pre.ofP (cx := [(r, .inr (3, [.ref rc, .int n, .int z])), (rc, .inl (cR, 512, .inl f))]) (pl := po) (tysc := [(cR, .int)]) (tk := [0]) hP hD hK hS hA hE hZ [0, 1] (by decide) rfl rfl U hU hW⟩⟩ rfl rfl hl.1 rfl (lv_room (Nat.le_of_ble_eq_true rfl)) dX4_open_24 ⟨by decide, by decide⟩) hP hD hK hS hA (fun _ => rfl) [0, 1] [] rfl rfl (by decide) (by decide) (fun v u H locs hw hP hD hK9 hS => ?_)
  obtain ⟨f1_1, n1_2, z1_3⟩ := u
  have hw : v = none ∧ r_load g N f n z = (f1_1, n1_2, z1_3) := hw
  obtain ⟨rfl, hq_4⟩ := hw
  have hP : va_P D vwCl ([(r, .inr (3, [.ref rc, .int n1_2, .int z1_3])), (rc, .inl (cR, 512, .inl f1_1))] ++ po) H := hP
  have hD : va_D _ ([(r, .inr (3, [.ref rc, .int n1_2, .int z1_3])), (rc, .inl (cR, 512, .inl f1_1))] ++ po) := hD
  refine W.eq (g2 := F0 m 27 ls []) rfl ?_
  refine lv_iconst (v := 0) hx hb dX4_open_27 (by decide) ?_
  refine lv_istore (lv' := [(5, .int 0), (4, .int (r_codeAt (r_place f + 2) f n)), (3, .int (r_codeAt (r_place f + 1) f n)), (2, .int (r_place f)), (0, .ref r), (1, .ref o)]) hx hb dX4_open_28 hl (by decide) rfl (fun ls hl => ?_)
  refine open_loop (F := f1_1) (n := n1_2) (z := z1_3) hx hb hml hown hts hE hZ hA (ok_of hq_4 (r_load_ok hn)) hK (fun H locs ls hP hD hS hl => ?_) _ 0 H _ ls (Nat.zero_add _) (hP.part [0, 1] (by rw [mapTo_0]; rfl)) (hD.part [0, 1] (by decide) (by rw [mapTo_0]; rfl)) hS (lv_sub hl [0, 1, 2, 3, 4] rfl)
  refine lv_iload_n hx hb dX4_open_93 rfl (lv_at hl 2 rfl) ?_
  refine lv_iconst (v := 1) hx hb dX4_open_94 (by decide) ?_
  refine lv_icmp_ne (tgt := 102) hx hb dX4_open_95 (by decide) (fun c_95 => ?_) (fun c_95 => ?_)
  · exact ck_vret ⟨mapTo (b_open (r_codeAt (r_place f + 1) f n) (r_codeAt (r_place f + 2) f n)) f1_1 n1_2.toNatClampNeg, n1_2, z1_3⟩ hx hb hr hlocks ⟨rfl, (by unfold r_open; rw [if_neg c_95]; simp only [hq_4])⟩ (hP.part [0, 1] rfl) (hK.sub [0] rfl) (hD.part [0, 1] (by decide) rfl) hS (by decide) (by decide) dX4_open_102
  · refine lv_aload_n hx hb dX4_open_98 rfl (lv_at hl 3 rfl) ?_
    refine ck_runQ (wr := []) (va_runV (C := RX4) (As := []) (rest := []) ⟨hx, hb, hml, hown, hts⟩ (c_neg l D H.size r rc cR (mapTo (b_open (r_codeAt (r_place f + 1) f n) (r_codeAt (r_place f + 2) f n)) f1_1 n1_2.toNatClampNeg) n1_2 z1_3 (ok_of hq_4 (r_load_ok hn))) (cw_V (n := 0) hts tw_2_198 tw_2_142 tw_2_143 tw_1_3 tw_2_144 (by decide +kernel) ⟨by decide, by decide⟩) ⟨pre.blind, va_recv (q := (RX4, TX4, 3)) hK hP (ci := 3) (q0 := 0) rfl rfl, fun U hU hW => ⟨rfl, pre.of (wc := [(r, .inr (3, [.ref rc, .int n1_2, .int z1_3])), (rc, .inl (cR, 512, .inl (mapTo (b_open (r_codeAt (r_place f + 1) f n) (r_codeAt (r_place f + 2) f n)) f1_1 n1_2.toNatClampNeg)))]) (tysc := [(cR, .int)]) (tk := [0]) hP.left hD.left hK hS hA hE hZ [0, 1] (by decide) rfl rfl rfl U hU hW⟩⟩ rfl rfl hl.1 rfl (lv_room (Nat.le_of_ble_eq_true rfl)) dX4_open_99 ⟨by decide, by decide⟩) hP hD hK hS hA [0, 1] [] rfl rfl (by decide) (by decide) (fun v u H locs hw hP hD hK9 hS => ?_)
    obtain ⟨f1_5, n1_6, z1_7⟩ := u
    have hw : v = none ∧ r_neg (mapTo (b_open (r_codeAt (r_place f + 1) f n) (r_codeAt (r_place f + 2) f n)) f1_1 n1_2.toNatClampNeg) n1_2 z1_3 = (f1_5, n1_6, z1_7) := hw
    obtain ⟨rfl, hq_8⟩ := hw
    have hP : va_P D vwCl ([(r, .inr (3, [.ref rc, .int n1_6, .int z1_7])), (rc, .inl (cR, 512, .inl f1_5))] ++ po) H := hP
    have hD : va_D _ ([(r, .inr (3, [.ref rc, .int n1_6, .int z1_7])), (rc, .inl (cR, 512, .inl f1_5))] ++ po) := hD
    refine W.eq (g2 := F0 m 102 ls []) rfl ?_
    exact ck_vret ⟨f1_5, n1_6, z1_7⟩ hx hb hr hlocks ⟨rfl, (by unfold r_open; rw [if_pos c_95]; simp only [hq_4, hq_8])⟩ (hP.part [0, 1] rfl) (hK.sub [0] rfl) (hD.part [0, 1] (by decide) rfl) hS (by decide) (by decide) dX4_open_102
set_option maxHeartbeats 4000000 in
set_option maxRecDepth 100000 in
theorem fi_loop {p : Program} {l : Launch} {e : Env} {s : State} {m : MethodId} {args : Array Value} {below : List Frame} {meth : Method} {c : Code} {Q : State → Prop} {D : va_G} {A : Nat → Prop} {o q : Nat} {cA : ClassId} {N : Nat} {g : Nat → Int32} (hx : p.tables.exec = Jvm.exec) (hb : c.code = cX2_init) (hml : c.maxLocals = 6) (hown : s.vm.findClass RX2 = some m.cls) (hts : ∀ w ∈ lw_G, w.before args s = true) (hE : ev s) (hZ : zz A s s.heap) (hA : ∀ q, s.heap.size ≤ q → A q) (hN : N ≤ 512) (hK : va_K D vwCl [(cA, .int)] s) (kont : ∀ (H : Heap) (locs : List Loc) (ls : Array Slot), va_P D vwCl [(o, .inr (1, [.null, .int 0, .int 0])), (q, .inl (cA, N, .inl g))] H → va_D A [(o, .inr (1, [.null, .int 0, .int 0])), (q, .inl (cA, N, .inl g))] → va_S A s.heap H locs → lv_has ls 6 [(3, .int ((fm g N).2)), (2, .int ((fm g N).1)), (1, .ref q), (0, .ref o)] → W p l e (rmK 14 410 0 0) s m args below meth c H locs 0 0 Q (F0 m 73 ls [])) :
    ∀ (t i : Nat) (H : Heap) (locs : List Loc) (ls : Array Slot), i + t = N → va_P D vwCl [(o, .inr (1, [.null, .int 0, .int 0])), (q, .inl (cA, N, .inl g))] H → va_D A [(o, .inr (1, [.null, .int 0, .int 0])), (q, .inl (cA, N, .inl g))] → va_S A s.heap H locs → lv_has ls 6 [(4, .int (nI i)), (3, .int ((fm g i).2)), (2, .int ((fm g i).1)), (1, .ref q), (0, .ref o)] → W p l e (rmK 14 410 0 0) s m args below meth c H locs 0 0 Q (F0 m 11 ls []) := by
  intro t
  induction t with
  | zero =>
    intro i H locs ls hi hP hD hS hl
    refine lv_iload hx hb dX2_init_11 (lv_at hl 0 rfl) ?_
    refine lv_aload_n hx hb dX2_init_13 rfl (lv_at hl 3 rfl) ?_
    refine va_alen hx hb hK hP 1 0 rfl rfl (v := nI N) rfl dX2_init_14 ?_
    refine lv_icmp_ge (tgt := 73) hx hb dX2_init_15 (by decide) (fun _ => ?_) (fun c9 => absurd (by rw [show i = N by omega]; exact Int32.le_refl _) c9)
    have ei : i = N := by omega
    rw [ei] at hl
    exact kont H locs ls hP hD hS (lv_sub hl [1, 2, 3, 4] rfl)
  | succ t ih =>
    intro i H locs ls hi hP hD hS hl
    refine lv_iload hx hb dX2_init_11 (lv_at hl 0 rfl) ?_
    refine lv_aload_n hx hb dX2_init_13 rfl (lv_at hl 3 rfl) ?_
    refine va_alen hx hb hK hP 1 0 rfl rfl (v := nI N) rfl dX2_init_14 ?_
    refine lv_icmp_ge (tgt := 73) hx hb dX2_init_15 (by decide) (fun c9 => absurd c9 (nI_ge (by omega) (by omega))) (fun _ => ?_)
    refine lv_aload_n hx hb dX2_init_18 rfl (lv_at hl 3 rfl) ?_
    refine lv_iload hx hb dX2_init_19 (lv_at hl 0 rfl) ?_
    refine va_iald hx hb hK hP 1 0 rfl rfl (by rw [vp_in_iff, nI_toInt (by omega)]; omega) dX2_init_21 ?_
    refine ck_top (y := g i) (by rw [nI_clamp (by omega)]) ?_
    refine ck_run (wr := [(o, .inr (1, [.null, .int 0, .int 0])), (q, .inl (cA, N, .inl g))]) (va_runS (As := [.int (g i)]) (rest := []) ⟨hx, hb, hml, hown, hts⟩ (c_value l D H.size (g i)) (cw_S (n := 1) hts tw_1_97 tw_1_98 tw_1_8 tw_1_99 (by decide +kernel) ⟨by decide, by decide⟩) ⟨pre.blind, fun U hU hW => ⟨rfl, pre.of (wc := []) (tysc := []) (tk := []) hP hD hK hS hA hE hZ [] (by decide) rfl rfl rfl U hU hW⟩⟩ rfl rfl hl.1 rfl (lv_room (Nat.le_of_ble_eq_true rfl)) dX2_init_22 ⟨by decide, by decide⟩) hP hD hK hS hA [] [0, 1] rfl rfl (by decide) (by decide) (fun v u H locs hw hP hD hK9 hS => ?_)
    have hw : v = some (.int ((g i) >>> ((4 : Int32) &&& 31))) := hw
    subst hw
    have hP : va_P D vwCl [(o, .inr (1, [.null, .int 0, .int 0])), (q, .inl (cA, N, .inl g))] H := hP
    have hD : va_D _ [(o, .inr (1, [.null, .int 0, .int 0])), (q, .inl (cA, N, .inl g))] := hD
    refine W.eq (g2 := F0 m 25 ls [.int ((g i) >>> ((4 : Int32) &&& 31))]) rfl ?_
    refine lv_istore (lv' := [(5, .int ((g i) >>> ((4 : Int32) &&& 31))), (4, .int (nI i)), (3, .int ((fm g i).2)), (2, .int ((fm g i).1)), (1, .ref q), (0, .ref o)]) hx hb dX2_init_25 hl (by decide) rfl (fun ls hl => ?_)
    refine lv_aload_n hx hb dX2_init_27 rfl (lv_at hl 4 rfl) ?_
    refine lv_iload hx hb dX2_init_28 (lv_at hl 1 rfl) ?_
    refine va_iald hx hb hK hP 1 0 rfl rfl (by rw [vp_in_iff, nI_toInt (by omega)]; omega) dX2_init_30 ?_
    refine ck_top (y := g i) (by rw [nI_clamp (by omega)]) ?_
    refine ck_run (wr := [(o, .inr (1, [.null, .int 0, .int 0])), (q, .inl (cA, N, .inl g))]) (va_runS (As := [.int (g i)]) (rest := []) ⟨hx, hb, hml, hown, hts⟩ (c_kind l D H.size (g i)) (cw_S (n := 1) hts tw_1_100 tw_1_101 tw_1_8 tw_1_102 (by decide +kernel) ⟨by decide, by decide⟩) ⟨pre.blind, fun U hU hW => ⟨rfl, pre.of (wc := []) (tysc := []) (tk := []) hP hD hK hS hA hE hZ [] (by decide) rfl rfl rfl U hU hW⟩⟩ rfl rfl hl.1 rfl (lv_room (Nat.le_of_ble_eq_true rfl)) dX2_init_31 ⟨by decide, by decide⟩) hP hD hK hS hA [] [0, 1] rfl rfl (by decide) (by decide) (fun v u H locs hw hP hD hK9 hS => ?_)
    have hw : v = some (.int ((g i) &&& 15)) := hw
    subst hw
    have hP : va_P D vwCl [(o, .inr (1, [.null, .int 0, .int 0])), (q, .inl (cA, N, .inl g))] H := hP
    have hD : va_D _ [(o, .inr (1, [.null, .int 0, .int 0])), (q, .inl (cA, N, .inl g))] := hD
    refine W.eq (g2 := F0 m 34 ls [.int ((g i) &&& 15)]) rfl ?_
    refine lv_iconst (v := 2) hx hb dX2_init_34 (by decide) ?_
    refine lv_icmp_ne (tgt := 45) hx hb dX2_init_35 (by decide) (fun c_35 => ?_) (fun c_35 => ?_)
    · refine lv_aload_n hx hb dX2_init_45 rfl (lv_at hl 4 rfl) ?_
      refine lv_iload hx hb dX2_init_46 (lv_at hl 1 rfl) ?_
      refine va_iald hx hb hK hP 1 0 rfl rfl (by rw [vp_in_iff, nI_toInt (by omega)]; omega) dX2_init_48 ?_
      refine ck_top (y := g i) (by rw [nI_clamp (by omega)]) ?_
      refine ck_run (wr := [(o, .inr (1, [.null, .int 0, .int 0])), (q, .inl (cA, N, .inl g))]) (va_runS (As := [.int (g i)]) (rest := []) ⟨hx, hb, hml, hown, hts⟩ (c_kind l D H.size (g i)) (cw_S (n := 1) hts tw_1_100 tw_1_101 tw_1_8 tw_1_102 (by decide +kernel) ⟨by decide, by decide⟩) ⟨pre.blind, fun U hU hW => ⟨rfl, pre.of (wc := []) (tysc := []) (tk := []) hP hD hK hS hA hE hZ [] (by decide) rfl rfl rfl U hU hW⟩⟩ rfl rfl hl.1 rfl (lv_room (Nat.le_of_ble_eq_true rfl)) dX2_init_49 ⟨by decide, by decide⟩) hP hD hK hS hA [] [0, 1] rfl rfl (by decide) (by decide) (fun v u H locs hw hP hD hK9 hS => ?_)
      have hw : v = some (.int ((g i) &&& 15)) := hw
      subst hw
      have hP : va_P D vwCl [(o, .inr (1, [.null, .int 0, .int 0])), (q, .inl (cA, N, .inl g))] H := hP
      have hD : va_D _ [(o, .inr (1, [.null, .int 0, .int 0])), (q, .inl (cA, N, .inl g))] := hD
      refine W.eq (g2 := F0 m 52 ls [.int ((g i) &&& 15)]) rfl ?_
      refine lv_iconst (v := 1) hx hb dX2_init_52 (by decide) ?_
      refine lv_icmp_ne (tgt := 67) hx hb dX2_init_53 (by decide) (fun c_53 => ?_) (fun c_53 => ?_)
      · obtain ⟨z_1, ez_1⟩ : ∃ z : Int32, z = (nI i) + 1 := ⟨_, rfl⟩
        refine lv_iinc (v := z_1) (lv' := [(4, .int z_1), (5, .int ((g i) >>> ((4 : Int32) &&& 31))), (3, .int ((fm g i).2)), (2, .int ((fm g i).1)), (1, .ref q), (0, .ref o)]) hx hb dX2_init_67 hl (k := 1) rfl (by rw [ez_1]; rfl) (by decide) rfl (fun ls hl => ?_)
        refine lv_goto (tgt := 11) hx hb dX2_init_70 (by decide) ?_
        have ez : z_1 = nI (i + 1) := by rw [ez_1]; exact nI_1 i
        subst ez
        have e2 : (fm g (i + 1)).1 = (fm g i).1 := by rw [fm_s]; unfold fm_step; show ite _ _ _ = _; rw [if_neg c_35]
        have e3 : (fm g (i + 1)).2 = (fm g i).2 := by rw [fm_s]; unfold fm_step; show ite _ _ _ = _; rw [if_neg c_53]
        exact ih (i + 1) H _ ls (by omega) (hP.sub [0, 1] rfl) (hD.sub [0, 1] (by decide) rfl) hS (by rw [e2, e3]; exact lv_sub hl [0, 2, 3, 4, 5] rfl)
      · refine lv_iload hx hb dX2_init_56 (lv_at hl 0 rfl) ?_
        refine lv_iload_n hx hb dX2_init_58 rfl (lv_at hl 2 rfl) ?_
        refine lv_icmp_lt (tgt := 67) hx hb dX2_init_59 (by decide) (fun c_59 => ?_) (fun c_59 => ?_)
        · obtain ⟨z_2, ez_2⟩ : ∃ z : Int32, z = (nI i) + 1 := ⟨_, rfl⟩
          refine lv_iinc (v := z_2) (lv' := [(4, .int z_2), (5, .int ((g i) >>> ((4 : Int32) &&& 31))), (3, .int ((fm g i).2)), (2, .int ((fm g i).1)), (1, .ref q), (0, .ref o)]) hx hb dX2_init_67 hl (k := 1) rfl (by rw [ez_2]; rfl) (by decide) rfl (fun ls hl => ?_)
          refine lv_goto (tgt := 11) hx hb dX2_init_70 (by decide) ?_
          have ez : z_2 = nI (i + 1) := by rw [ez_2]; exact nI_1 i
          subst ez
          have e2 : (fm g (i + 1)).1 = (fm g i).1 := by rw [fm_s]; unfold fm_step; show ite _ _ _ = _; rw [if_neg c_35]
          have e3 : (fm g (i + 1)).2 = (fm g i).2 := by rw [fm_s]; unfold fm_step; show ite _ _ _ = _; rw [if_pos c_53, if_pos c_59]
          exact ih (i + 1) H _ ls (by omega) (hP.sub [0, 1] rfl) (hD.sub [0, 1] (by decide) rfl) hS (by rw [e2, e3]; exact lv_sub hl [0, 2, 3, 4, 5] rfl)
        · refine lv_iload hx hb dX2_init_62 (lv_at hl 0 rfl) ?_
          refine lv_iconst (v := 1) hx hb dX2_init_64 (by decide) ?_
          refine lv_iadd hx hb dX2_init_65 ?_
          refine ck_top (y := g i >>> ((4 : Int32) &&& 31) + 1) rfl ?_
          refine lv_istore_n (lv' := [(3, .int (g i >>> ((4 : Int32) &&& 31) + 1)), (5, .int ((g i) >>> ((4 : Int32) &&& 31))), (4, .int (nI i)), (2, .int ((fm g i).1)), (1, .ref q), (0, .ref o)]) hx hb dX2_init_66 rfl hl (by decide) rfl (fun ls hl => ?_)
          obtain ⟨z_3, ez_3⟩ : ∃ z : Int32, z = (nI i) + 1 := ⟨_, rfl⟩
          refine lv_iinc (v := z_3) (lv' := [(4, .int z_3), (3, .int (g i >>> ((4 : Int32) &&& 31) + 1)), (5, .int ((g i) >>> ((4 : Int32) &&& 31))), (2, .int ((fm g i).1)), (1, .ref q), (0, .ref o)]) hx hb dX2_init_67 hl (k := 2) rfl (by rw [ez_3]; rfl) (by decide) rfl (fun ls hl => ?_)
          refine lv_goto (tgt := 11) hx hb dX2_init_70 (by decide) ?_
          have ez : z_3 = nI (i + 1) := by rw [ez_3]; exact nI_1 i
          subst ez
          have e2 : (fm g (i + 1)).1 = (fm g i).1 := by rw [fm_s]; unfold fm_step; show ite _ _ _ = _; rw [if_neg c_35]
          have e3 : (fm g (i + 1)).2 = g i >>> ((4 : Int32) &&& 31) + 1 := by rw [fm_s]; unfold fm_step; show ite _ _ _ = _; rw [if_pos c_53, if_neg c_59]
          exact ih (i + 1) H _ ls (by omega) (hP.sub [0, 1] rfl) (hD.sub [0, 1] (by decide) rfl) hS (by rw [e2, e3]; exact lv_sub hl [0, 1, 3, 4, 5] rfl)
    · refine lv_iload hx hb dX2_init_38 (lv_at hl 0 rfl) ?_
      refine lv_if_ge (tgt := 45) hx hb dX2_init_40 (by decide) (fun c_40 => ?_) (fun c_40 => ?_)
      · refine lv_aload_n hx hb dX2_init_45 rfl (lv_at hl 4 rfl) ?_
        refine lv_iload hx hb dX2_init_46 (lv_at hl 1 rfl) ?_
        refine va_iald hx hb hK hP 1 0 rfl rfl (by rw [vp_in_iff, nI_toInt (by omega)]; omega) dX2_init_48 ?_
        refine ck_top (y := g i) (by rw [nI_clamp (by omega)]) ?_
        refine ck_run (wr := [(o, .inr (1, [.null, .int 0, .int 0])), (q, .inl (cA, N, .inl g))]) (va_runS (As := [.int (g i)]) (rest := []) ⟨hx, hb, hml, hown, hts⟩ (c_kind l D H.size (g i)) (cw_S (n := 1) hts tw_1_100 tw_1_101 tw_1_8 tw_1_102 (by decide +kernel) ⟨by decide, by decide⟩) ⟨pre.blind, fun U hU hW => ⟨rfl, pre.of (wc := []) (tysc := []) (tk := []) hP hD hK hS hA hE hZ [] (by decide) rfl rfl rfl U hU hW⟩⟩ rfl rfl hl.1 rfl (lv_room (Nat.le_of_ble_eq_true rfl)) dX2_init_49 ⟨by decide, by decide⟩) hP hD hK hS hA [] [0, 1] rfl rfl (by decide) (by decide) (fun v u H locs hw hP hD hK9 hS => ?_)
        have hw : v = some (.int ((g i) &&& 15)) := hw
        subst hw
        have hP : va_P D vwCl [(o, .inr (1, [.null, .int 0, .int 0])), (q, .inl (cA, N, .inl g))] H := hP
        have hD : va_D _ [(o, .inr (1, [.null, .int 0, .int 0])), (q, .inl (cA, N, .inl g))] := hD
        refine W.eq (g2 := F0 m 52 ls [.int ((g i) &&& 15)]) rfl ?_
        refine lv_iconst (v := 1) hx hb dX2_init_52 (by decide) ?_
        refine lv_icmp_ne (tgt := 67) hx hb dX2_init_53 (by decide) (fun c_53 => ?_) (fun c_53 => ?_)
        · obtain ⟨z_4, ez_4⟩ : ∃ z : Int32, z = (nI i) + 1 := ⟨_, rfl⟩
          refine lv_iinc (v := z_4) (lv' := [(4, .int z_4), (5, .int ((g i) >>> ((4 : Int32) &&& 31))), (3, .int ((fm g i).2)), (2, .int ((fm g i).1)), (1, .ref q), (0, .ref o)]) hx hb dX2_init_67 hl (k := 1) rfl (by rw [ez_4]; rfl) (by decide) rfl (fun ls hl => ?_)
          refine lv_goto (tgt := 11) hx hb dX2_init_70 (by decide) ?_
          have ez : z_4 = nI (i + 1) := by rw [ez_4]; exact nI_1 i
          subst ez
          have e2 : (fm g (i + 1)).1 = (fm g i).1 := by rw [fm_s]; unfold fm_step; show ite _ _ _ = _; rw [if_pos c_35, if_pos c_40]
          have e3 : (fm g (i + 1)).2 = (fm g i).2 := by rw [fm_s]; unfold fm_step; show ite _ _ _ = _; rw [if_neg c_53]
          exact ih (i + 1) H _ ls (by omega) (hP.sub [0, 1] rfl) (hD.sub [0, 1] (by decide) rfl) hS (by rw [e2, e3]; exact lv_sub hl [0, 2, 3, 4, 5] rfl)
        · refine lv_iload hx hb dX2_init_56 (lv_at hl 0 rfl) ?_
          refine lv_iload_n hx hb dX2_init_58 rfl (lv_at hl 2 rfl) ?_
          refine lv_icmp_lt (tgt := 67) hx hb dX2_init_59 (by decide) (fun c_59 => ?_) (fun c_59 => ?_)
          · obtain ⟨z_5, ez_5⟩ : ∃ z : Int32, z = (nI i) + 1 := ⟨_, rfl⟩
            refine lv_iinc (v := z_5) (lv' := [(4, .int z_5), (5, .int ((g i) >>> ((4 : Int32) &&& 31))), (3, .int ((fm g i).2)), (2, .int ((fm g i).1)), (1, .ref q), (0, .ref o)]) hx hb dX2_init_67 hl (k := 1) rfl (by rw [ez_5]; rfl) (by decide) rfl (fun ls hl => ?_)
            refine lv_goto (tgt := 11) hx hb dX2_init_70 (by decide) ?_
            have ez : z_5 = nI (i + 1) := by rw [ez_5]; exact nI_1 i
            subst ez
            have e2 : (fm g (i + 1)).1 = (fm g i).1 := by rw [fm_s]; unfold fm_step; show ite _ _ _ = _; rw [if_pos c_35, if_pos c_40]
            have e3 : (fm g (i + 1)).2 = (fm g i).2 := by rw [fm_s]; unfold fm_step; show ite _ _ _ = _; rw [if_pos c_53, if_pos c_59]
            exact ih (i + 1) H _ ls (by omega) (hP.sub [0, 1] rfl) (hD.sub [0, 1] (by decide) rfl) hS (by rw [e2, e3]; exact lv_sub hl [0, 2, 3, 4, 5] rfl)
          · refine lv_iload hx hb dX2_init_62 (lv_at hl 0 rfl) ?_
            refine lv_iconst (v := 1) hx hb dX2_init_64 (by decide) ?_
            refine lv_iadd hx hb dX2_init_65 ?_
            refine ck_top (y := g i >>> ((4 : Int32) &&& 31) + 1) rfl ?_
            refine lv_istore_n (lv' := [(3, .int (g i >>> ((4 : Int32) &&& 31) + 1)), (5, .int ((g i) >>> ((4 : Int32) &&& 31))), (4, .int (nI i)), (2, .int ((fm g i).1)), (1, .ref q), (0, .ref o)]) hx hb dX2_init_66 rfl hl (by decide) rfl (fun ls hl => ?_)
            obtain ⟨z_6, ez_6⟩ : ∃ z : Int32, z = (nI i) + 1 := ⟨_, rfl⟩
            refine lv_iinc (v := z_6) (lv' := [(4, .int z_6), (3, .int (g i >>> ((4 : Int32) &&& 31) + 1)), (5, .int ((g i) >>> ((4 : Int32) &&& 31))), (2, .int ((fm g i).1)), (1, .ref q), (0, .ref o)]) hx hb dX2_init_67 hl (k := 2) rfl (by rw [ez_6]; rfl) (by decide) rfl (fun ls hl => ?_)
            refine lv_goto (tgt := 11) hx hb dX2_init_70 (by decide) ?_
            have ez : z_6 = nI (i + 1) := by rw [ez_6]; exact nI_1 i
            subst ez
            have e2 : (fm g (i + 1)).1 = (fm g i).1 := by rw [fm_s]; unfold fm_step; show ite _ _ _ = _; rw [if_pos c_35, if_pos c_40]
            have e3 : (fm g (i + 1)).2 = g i >>> ((4 : Int32) &&& 31) + 1 := by rw [fm_s]; unfold fm_step; show ite _ _ _ = _; rw [if_pos c_53, if_neg c_59]
            exact ih (i + 1) H _ ls (by omega) (hP.sub [0, 1] rfl) (hD.sub [0, 1] (by decide) rfl) hS (by rw [e2, e3]; exact lv_sub hl [0, 1, 3, 4, 5] rfl)
      · refine lv_iconst (v := 1) hx hb dX2_init_43 (by decide) ?_
        refine lv_istore_n (lv' := [(2, .int 1), (5, .int ((g i) >>> ((4 : Int32) &&& 31))), (4, .int (nI i)), (3, .int ((fm g i).2)), (1, .ref q), (0, .ref o)]) hx hb dX2_init_44 rfl hl (by decide) rfl (fun ls hl => ?_)
        refine lv_aload_n hx hb dX2_init_45 rfl (lv_at hl 4 rfl) ?_
        refine lv_iload hx hb dX2_init_46 (lv_at hl 2 rfl) ?_
        refine va_iald hx hb hK hP 1 0 rfl rfl (by rw [vp_in_iff, nI_toInt (by omega)]; omega) dX2_init_48 ?_
        refine ck_top (y := g i) (by rw [nI_clamp (by omega)]) ?_
        refine ck_run (wr := [(o, .inr (1, [.null, .int 0, .int 0])), (q, .inl (cA, N, .inl g))]) (va_runS (As := [.int (g i)]) (rest := []) ⟨hx, hb, hml, hown, hts⟩ (c_kind l D H.size (g i)) (cw_S (n := 1) hts tw_1_100 tw_1_101 tw_1_8 tw_1_102 (by decide +kernel) ⟨by decide, by decide⟩) ⟨pre.blind, fun U hU hW => ⟨rfl, pre.of (wc := []) (tysc := []) (tk := []) hP hD hK hS hA hE hZ [] (by decide) rfl rfl rfl U hU hW⟩⟩ rfl rfl hl.1 rfl (lv_room (Nat.le_of_ble_eq_true rfl)) dX2_init_49 ⟨by decide, by decide⟩) hP hD hK hS hA [] [0, 1] rfl rfl (by decide) (by decide) (fun v u H locs hw hP hD hK9 hS => ?_)
        have hw : v = some (.int ((g i) &&& 15)) := hw
        subst hw
        have hP : va_P D vwCl [(o, .inr (1, [.null, .int 0, .int 0])), (q, .inl (cA, N, .inl g))] H := hP
        have hD : va_D _ [(o, .inr (1, [.null, .int 0, .int 0])), (q, .inl (cA, N, .inl g))] := hD
        refine W.eq (g2 := F0 m 52 ls [.int ((g i) &&& 15)]) rfl ?_
        refine lv_iconst (v := 1) hx hb dX2_init_52 (by decide) ?_
        refine lv_icmp_ne (tgt := 67) hx hb dX2_init_53 (by decide) (fun c_53 => ?_) (fun c_53 => ?_)
        · obtain ⟨z_7, ez_7⟩ : ∃ z : Int32, z = (nI i) + 1 := ⟨_, rfl⟩
          refine lv_iinc (v := z_7) (lv' := [(4, .int z_7), (2, .int 1), (5, .int ((g i) >>> ((4 : Int32) &&& 31))), (3, .int ((fm g i).2)), (1, .ref q), (0, .ref o)]) hx hb dX2_init_67 hl (k := 2) rfl (by rw [ez_7]; rfl) (by decide) rfl (fun ls hl => ?_)
          refine lv_goto (tgt := 11) hx hb dX2_init_70 (by decide) ?_
          have ez : z_7 = nI (i + 1) := by rw [ez_7]; exact nI_1 i
          subst ez
          have e2 : (fm g (i + 1)).1 = 1 := by rw [fm_s]; unfold fm_step; show ite _ _ _ = _; rw [if_pos c_35, if_neg c_40]
          have e3 : (fm g (i + 1)).2 = (fm g i).2 := by rw [fm_s]; unfold fm_step; show ite _ _ _ = _; rw [if_neg c_53]
          exact ih (i + 1) H _ ls (by omega) (hP.sub [0, 1] rfl) (hD.sub [0, 1] (by decide) rfl) hS (by rw [e2, e3]; exact lv_sub hl [0, 3, 1, 4, 5] rfl)
        · refine lv_iload hx hb dX2_init_56 (lv_at hl 1 rfl) ?_
          refine lv_iload_n hx hb dX2_init_58 rfl (lv_at hl 3 rfl) ?_
          refine lv_icmp_lt (tgt := 67) hx hb dX2_init_59 (by decide) (fun c_59 => ?_) (fun c_59 => ?_)
          · obtain ⟨z_8, ez_8⟩ : ∃ z : Int32, z = (nI i) + 1 := ⟨_, rfl⟩
            refine lv_iinc (v := z_8) (lv' := [(4, .int z_8), (2, .int 1), (5, .int ((g i) >>> ((4 : Int32) &&& 31))), (3, .int ((fm g i).2)), (1, .ref q), (0, .ref o)]) hx hb dX2_init_67 hl (k := 2) rfl (by rw [ez_8]; rfl) (by decide) rfl (fun ls hl => ?_)
            refine lv_goto (tgt := 11) hx hb dX2_init_70 (by decide) ?_
            have ez : z_8 = nI (i + 1) := by rw [ez_8]; exact nI_1 i
            subst ez
            have e2 : (fm g (i + 1)).1 = 1 := by rw [fm_s]; unfold fm_step; show ite _ _ _ = _; rw [if_pos c_35, if_neg c_40]
            have e3 : (fm g (i + 1)).2 = (fm g i).2 := by rw [fm_s]; unfold fm_step; show ite _ _ _ = _; rw [if_pos c_53, if_pos c_59]
            exact ih (i + 1) H _ ls (by omega) (hP.sub [0, 1] rfl) (hD.sub [0, 1] (by decide) rfl) hS (by rw [e2, e3]; exact lv_sub hl [0, 3, 1, 4, 5] rfl)
          · refine lv_iload hx hb dX2_init_62 (lv_at hl 1 rfl) ?_
            refine lv_iconst (v := 1) hx hb dX2_init_64 (by decide) ?_
            refine lv_iadd hx hb dX2_init_65 ?_
            refine ck_top (y := g i >>> ((4 : Int32) &&& 31) + 1) rfl ?_
            refine lv_istore_n (lv' := [(3, .int (g i >>> ((4 : Int32) &&& 31) + 1)), (2, .int 1), (5, .int ((g i) >>> ((4 : Int32) &&& 31))), (4, .int (nI i)), (1, .ref q), (0, .ref o)]) hx hb dX2_init_66 rfl hl (by decide) rfl (fun ls hl => ?_)
            obtain ⟨z_9, ez_9⟩ : ∃ z : Int32, z = (nI i) + 1 := ⟨_, rfl⟩
            refine lv_iinc (v := z_9) (lv' := [(4, .int z_9), (3, .int (g i >>> ((4 : Int32) &&& 31) + 1)), (2, .int 1), (5, .int ((g i) >>> ((4 : Int32) &&& 31))), (1, .ref q), (0, .ref o)]) hx hb dX2_init_67 hl (k := 3) rfl (by rw [ez_9]; rfl) (by decide) rfl (fun ls hl => ?_)
            refine lv_goto (tgt := 11) hx hb dX2_init_70 (by decide) ?_
            have ez : z_9 = nI (i + 1) := by rw [ez_9]; exact nI_1 i
            subst ez
            have e2 : (fm g (i + 1)).1 = 1 := by rw [fm_s]; unfold fm_step; show ite _ _ _ = _; rw [if_pos c_35, if_neg c_40]
            have e3 : (fm g (i + 1)).2 = g i >>> ((4 : Int32) &&& 31) + 1 := by rw [fm_s]; unfold fm_step; show ite _ _ _ = _; rw [if_pos c_53, if_neg c_59]
            exact ih (i + 1) H _ ls (by omega) (hP.sub [0, 1] rfl) (hD.sub [0, 1] (by decide) rfl) hS (by rw [e2, e3]; exact lv_sub hl [0, 1, 2, 4, 5] rfl)
set_option maxHeartbeats 4000000 in
set_option maxRecDepth 100000 in
theorem c_formInit (l : Launch) (D : va_G) (sz : Nat) (o q : Nat) (cA : ClassId) (N : Nat) (g : Nat → Int32) (hN : N ≤ 512) : cM l yX2_init (.code yX2_init cX2_init 6 none) 14 410 0 0 [.ref o, .ref q] D [(cA, .int)] [(o, .inr (1, [.null, .int 0, .int 0])), (q, .inl (cA, N, .inl g))] sz (S := Unit) (fun v _ => v = none) (fun _ => [(o, .inr (1, [.ref q, .int (fm_whole g N), .int ((fm g N).2)])), (q, .inl (cA, N, .inl g))]) (fun _ => [(cA, .int)]) := by
  refine cM_of (by decide) (Nat.le_of_ble_eq_true rfl) ?_
  intro p e s m below meth c ls hF hsz hP hK hD hE hZ hA hl
  obtain ⟨hx, hb, hr, hml, hown, hlocks, hnm, htb, hts⟩ := hF
  have hown : s.vm.findClass RX2 = some m.cls := hown
  have hl : lv_has ls 6 [(0, .ref o), (1, .ref q)] := hl
  have hS : va_S (va_A [(o, .inr (1, [.null, .int 0, .int 0])), (q, .inl (cA, N, .inl g))] sz) s.heap s.heap [] := va_S.rf
  refine lv_aload_n hx hb dX2_init_0 rfl (lv_at hl 0 rfl) ?_
  refine W.objInit hx hb hown (hts _ tw_1_96) (hts _ tw_oi) (hts _ tw_oc) rfl (by rw [hml]; exact hl.1) rfl dX2_init_1 (Nat.le_of_ble_eq_true rfl) (Nat.le_of_ble_eq_true rfl) ?_
  refine W.eq (g2 := F0 m 4 ls []) rfl ?_
  refine lv_iconst (v := 0) hx hb dX2_init_4 (by decide) ?_
  refine lv_istore_n (lv' := [(2, .int 0), (0, .ref o), (1, .ref q)]) hx hb dX2_init_5 rfl hl (by decide) rfl (fun ls hl => ?_)
  refine lv_iconst (v := 0) hx hb dX2_init_6 (by decide) ?_
  refine lv_istore_n (lv' := [(3, .int 0), (2, .int 0), (0, .ref o), (1, .ref q)]) hx hb dX2_init_7 rfl hl (by decide) rfl (fun ls hl => ?_)
  refine lv_iconst (v := 0) hx hb dX2_init_8 (by decide) ?_
  refine lv_istore (lv' := [(4, .int 0), (3, .int 0), (2, .int 0), (0, .ref o), (1, .ref q)]) hx hb dX2_init_9 hl (by decide) rfl (fun ls hl => ?_)
  refine fi_loop hx hb hml hown hts hE hZ hA hN hK (fun H locs ls hP hD hS hl => ?_) N 0 _ _ ls (Nat.zero_add _) hP hD hS (by exact lv_sub hl [0, 1, 2, 4, 3] rfl)
  refine lv_aload_n hx hb dX2_init_73 rfl (lv_at hl 3 rfl) ?_
  refine lv_aload_n hx hb dX2_init_74 rfl (lv_at hl 2 rfl) ?_
  refine va_putF (ci := 1) (v := .ref q) (ty := .array .int) (C := RX2) (T := TX2) (N := 3) hx hb hts inG_X2 tyX2 tyX2_ok nmX2 hown hK hP hD hS 0 rfl rfl 0 (by decide) (hts _ tw_1_103) (fun _ h9 => h9) rfl hnm rfl (by decide +kernel) rfl rfl (Nat.le_of_ble_eq_true rfl) dX2_init_75 (fun H locs hP hD hS => ?_)
  have hP : va_P D vwCl [(o, .inr (1, [.ref q, .int 0, .int 0])), (q, .inl (cA, N, .inl g))] H := hP
  have hD : va_D _ [(o, .inr (1, [.ref q, .int 0, .int 0])), (q, .inl (cA, N, .inl g))] := hD
  refine lv_aload_n hx hb dX2_init_78 rfl (lv_at hl 3 rfl) ?_
  refine lv_iload_n hx hb dX2_init_79 rfl (lv_at hl 1 rfl) ?_
  refine lv_if_ne (tgt := 87) hx hb dX2_init_80 (by decide) (fun c_80 => ?_) (fun c_80 => ?_)
  · refine lv_iconst (v := 0) hx hb dX2_init_87 (by decide) ?_
    refine va_putF (ci := 1) (v := .int 0) (ty := .boolean) (C := RX2) (T := TX2) (N := 3) hx hb hts inG_X2 tyX2 tyX2_ok nmX2 hown hK hP hD hS 0 rfl rfl 1 (by decide) (hts _ tw_1_106) (fun _ h9 => h9) rfl hnm rfl (by decide +kernel) rfl rfl (Nat.le_of_ble_eq_true rfl) dX2_init_88 (fun H locs hP hD hS => ?_)
    have hP : va_P D vwCl [(o, .inr (1, [.ref q, .int 0, .int 0])), (q, .inl (cA, N, .inl g))] H := hP
    have hD : va_D _ [(o, .inr (1, [.ref q, .int 0, .int 0])), (q, .inl (cA, N, .inl g))] := hD
    have ew : fm_whole g N = 0 := by unfold fm_whole; rw [if_neg c_80]
    have hP : va_P D vwCl [(o, .inr (1, [.ref q, .int (fm_whole g N), .int 0])), (q, .inl (cA, N, .inl g))] H := by rw [ew]; exact hP
    have hD : va_D (va_A [(o, .inr (1, [.null, .int 0, .int 0])), (q, .inl (cA, N, .inl g))] sz) [(o, .inr (1, [.ref q, .int (fm_whole g N), .int 0])), (q, .inl (cA, N, .inl g))] := by rw [ew]; exact hD
    refine lv_aload_n hx hb dX2_init_91 rfl (lv_at hl 3 rfl) ?_
    refine lv_iload_n hx hb dX2_init_92 rfl (lv_at hl 0 rfl) ?_
    refine va_putF (ci := 1) (v := .int ((fm g N).2)) (ty := .int) (C := RX2) (T := TX2) (N := 3) hx hb hts inG_X2 tyX2 tyX2_ok nmX2 hown hK hP hD hS 0 rfl rfl 2 (by decide) (hts _ tw_1_108) (fun _ h9 => h9) rfl hnm rfl (by decide +kernel) rfl rfl (Nat.le_of_ble_eq_true rfl) dX2_init_93 (fun H locs hP hD hS => ?_)
    have hP : va_P D vwCl [(o, .inr (1, [.ref q, .int (fm_whole g N), .int ((fm g N).2)])), (q, .inl (cA, N, .inl g))] H := hP
    have hD : va_D _ [(o, .inr (1, [.ref q, .int (fm_whole g N), .int ((fm g N).2)])), (q, .inl (cA, N, .inl g))] := hD
    exact ck_vret () hx hb hr hlocks rfl (hP.sub [0, 1] rfl) (hK.sub [0] rfl) (hD.sub [0, 1] (by decide) rfl) hS (by decide) (by decide) dX2_init_96
  · refine lv_iconst (v := 1) hx hb dX2_init_83 (by decide) ?_
    refine lv_goto (tgt := 88) hx hb dX2_init_84 (by decide) ?_
    refine va_putF (ci := 1) (v := .int 1) (ty := .boolean) (C := RX2) (T := TX2) (N := 3) hx hb hts inG_X2 tyX2 tyX2_ok nmX2 hown hK hP hD hS 0 rfl rfl 1 (by decide) (hts _ tw_1_106) (fun _ h9 => h9) rfl hnm rfl (by decide +kernel) rfl rfl (Nat.le_of_ble_eq_true rfl) dX2_init_88 (fun H locs hP hD hS => ?_)
    have hP : va_P D vwCl [(o, .inr (1, [.ref q, .int 1, .int 0])), (q, .inl (cA, N, .inl g))] H := hP
    have hD : va_D _ [(o, .inr (1, [.ref q, .int 1, .int 0])), (q, .inl (cA, N, .inl g))] := hD
    have ew : fm_whole g N = 1 := by unfold fm_whole; rw [if_pos c_80]
    have hP : va_P D vwCl [(o, .inr (1, [.ref q, .int (fm_whole g N), .int 0])), (q, .inl (cA, N, .inl g))] H := by rw [ew]; exact hP
    have hD : va_D (va_A [(o, .inr (1, [.null, .int 0, .int 0])), (q, .inl (cA, N, .inl g))] sz) [(o, .inr (1, [.ref q, .int (fm_whole g N), .int 0])), (q, .inl (cA, N, .inl g))] := by rw [ew]; exact hD
    refine lv_aload_n hx hb dX2_init_91 rfl (lv_at hl 3 rfl) ?_
    refine lv_iload_n hx hb dX2_init_92 rfl (lv_at hl 0 rfl) ?_
    refine va_putF (ci := 1) (v := .int ((fm g N).2)) (ty := .int) (C := RX2) (T := TX2) (N := 3) hx hb hts inG_X2 tyX2 tyX2_ok nmX2 hown hK hP hD hS 0 rfl rfl 2 (by decide) (hts _ tw_1_108) (fun _ h9 => h9) rfl hnm rfl (by decide +kernel) rfl rfl (Nat.le_of_ble_eq_true rfl) dX2_init_93 (fun H locs hP hD hS => ?_)
    have hP : va_P D vwCl [(o, .inr (1, [.ref q, .int (fm_whole g N), .int ((fm g N).2)])), (q, .inl (cA, N, .inl g))] H := hP
    have hD : va_D _ [(o, .inr (1, [.ref q, .int (fm_whole g N), .int ((fm g N).2)])), (q, .inl (cA, N, .inl g))] := hD
    exact ck_vret () hx hb hr hlocks rfl (hP.sub [0, 1] rfl) (hK.sub [0] rfl) (hD.sub [0, 1] (by decide) rfl) hS (by decide) (by decide) dX2_init_96
set_option maxHeartbeats 4000000 in
set_option maxRecDepth 100000 in
theorem c_head (l : Launch) (D : va_G) (sz : Nat) (cR : ClassId) (po : va_W) (j i : Nat) (o q : Nat) (N : Nat) (g : Nat → Int32) (w lo : Int32) (hgo : po[i]? = some (o, .inr (1, [.ref q, .int w, .int lo]))) (hgc : po[j]? = some (q, .inl (cR, N, .inl g))) (hN : 1 ≤ N ∧ N ≤ 512) : cM l yX2_head (.code yX2_head cX2_head 1 (some .int)) 10 270 0 0 [.ref o] D [(cR, .int)] ([] ++ po) sz (S := Unit) (fun v _ => v = some (.int (g ((0 : Int32).toNatClampNeg)))) (fun _ => ([] ++ po)) (fun _ => [(cR, .int)]) := by
  refine cM_of (by decide) (Nat.le_of_ble_eq_true rfl) ?_
  intro p e s m below meth c ls hF hsz hP hK hD hE hZ hA hl
  obtain ⟨hx, hb, hr, hml, hown, hlocks, hnm, htb, hts⟩ := hF
  have hown : s.vm.findClass RX2 = some m.cls := hown
  have hl : lv_has ls 1 [(0, .ref o)] := hl
  have hS : va_S (va_A ([] ++ po) sz) s.heap s.heap [] := va_S.rf
  refine lv_aload_n hx hb dX2_head_0 rfl (lv_at hl 0 rfl) ?_
  refine va_get (ci := 1) (v := .ref q) (C := RX2) (T := TX2) (N := 3) hx hb hts inG_X2 hown hK hP (i + 0) hgo rfl 0 (by decide) (hts _ tw_1_103) (fun _ h9 => h9) rfl dX2_head_1 ?_
  refine va_alen hx hb hK hP (j + 0) 0 hgc rfl (v := nI N) rfl dX2_head_4 ?_
  refine lv_if_le (tgt := 17) hx hb dX2_head_5 (by decide) (fun c9 => absurd c9 (nI_nle (by omega) (by omega))) (fun _ => ?_)
  refine lv_aload_n hx hb dX2_head_8 rfl (lv_at hl 0 rfl) ?_
  refine va_get (ci := 1) (v := .ref q) (C := RX2) (T := TX2) (N := 3) hx hb hts inG_X2 hown hK hP (i + 0) hgo rfl 0 (by decide) (hts _ tw_1_103) (fun _ h9 => h9) rfl dX2_head_9 ?_
  refine lv_iconst (v := 0) hx hb dX2_head_12 (by decide) ?_
  refine va_iald hx hb hK hP (j + 0) 0 hgc rfl (g_in0 hN.1) dX2_head_13 ?_
  refine ck_top (y := g ((0 : Int32).toNatClampNeg)) rfl ?_
  refine lv_goto (tgt := 18) hx hb dX2_head_14 (by decide) ?_
  exact ck_iret () hx hb hr rfl hlocks rfl (hP.part [] rfl) (hK.sub [0] rfl) (hD.part [] (by decide) rfl) hS (by decide) (by decide) dX2_head_18
set_option maxHeartbeats 4000000 in
set_option maxRecDepth 100000 in
theorem c_isTerm (l : Launch) (D : va_G) (sz : Nat) (cR : ClassId) (po : va_W) (j i : Nat) (o q : Nat) (N : Nat) (g : Nat → Int32) (w lo : Int32) (hgo : po[i]? = some (o, .inr (1, [.ref q, .int w, .int lo]))) (hgc : po[j]? = some (q, .inl (cR, N, .inl g))) (hN : 1 ≤ N ∧ N ≤ 512) : cM l yX2_isTerm (.code yX2_isTerm cX2_isTerm 1 (some .boolean)) 12 340 0 0 [.ref o] D [(cR, .int)] ([] ++ po) sz (S := Unit) (fun v _ => v = some (.int (k_term (g ((0 : Int32).toNatClampNeg))))) (fun _ => ([] ++ po)) (fun _ => [(cR, .int)]) := by
  refine cM_of (by decide) (Nat.le_of_ble_eq_true rfl) ?_
  intro p e s m below meth c ls hF hsz hP hK hD hE hZ hA hl
  obtain ⟨hx, hb, hr, hml, hown, hlocks, hnm, htb, hts⟩ := hF
  have hown : s.vm.findClass RX2 = some m.cls := hown
  have hl : lv_has ls 1 [(0, .ref o)] := hl
  have hS : va_S (va_A ([] ++ po) sz) s.heap s.heap [] := va_S.rf
  refine lv_aload_n hx hb dX2_isTerm_0 rfl (lv_at hl 0 rfl) ?_
  have hP : va_P D vwCl ([] ++ po) s.heap := hP
  have hD : va_D _ ([] ++ po) := hD
  refine ck_runP (wr := []) (rx := fun _ => []) (pl1 := fun _ => po) (va_runV (C := RX2) (As := []) (rest := []) ⟨hx, hb, hml, hown, hts⟩ (c_head l D s.heap.size cR po j i o q N g w lo hgo hgc hN) (cw_V (n := 0) hts tw_2_39 tw_2_40 tw_2_41 tw_1_4 tw_2_42 (by decide +kernel) ⟨by decide, by decide⟩) ⟨pre.blind, va_recv (q := (RX2, TX2, 3)) hK hP (ci := 1) (q0 := (i + 0)) rfl hgo, fun U hU hW => ⟨rfl, pre.ofP (cx := []) (pl := po) (tysc := [(cR, .int)]) (tk := [0]) hP hD hK hS hA hE hZ [] (by decide) rfl rfl U hU hW⟩⟩ rfl rfl hl.1 rfl (lv_room (Nat.le_of_ble_eq_true rfl)) dX2_isTerm_1 ⟨by decide, by decide⟩) hP hD hK hS hA (fun _ => rfl) [] [] rfl rfl (by decide) (by decide) (fun v u H locs hw hP hD hK9 hS => ?_)
  have hw : v = some (.int (g ((0 : Int32).toNatClampNeg))) := hw
  subst hw
  have hP : va_P D vwCl ([] ++ po) H := hP
  have hD : va_D _ ([] ++ po) := hD
  refine W.eq (g2 := F0 m 4 ls [.int (g ((0 : Int32).toNatClampNeg))]) rfl ?_
  refine ck_runQ (wr := []) (va_runS (As := [.int (g ((0 : Int32).toNatClampNeg))]) (rest := []) ⟨hx, hb, hml, hown, hts⟩ (c_kind l D H.size (g ((0 : Int32).toNatClampNeg))) (cw_S (n := 1) hts tw_1_100 tw_1_101 tw_1_8 tw_1_102 (by decide +kernel) ⟨by decide, by decide⟩) ⟨pre.blind, fun U hU hW => ⟨rfl, pre.of (wc := []) (tysc := []) (tk := []) hP.left hD.left hK hS hA hE hZ [] (by decide) rfl rfl rfl U hU hW⟩⟩ rfl rfl hl.1 rfl (lv_room (Nat.le_of_ble_eq_true rfl)) dX2_isTerm_4 ⟨by decide, by decide⟩) hP hD hK hS hA [] [] rfl rfl (by decide) (by decide) (fun v u H locs hw hP hD hK9 hS => ?_)
  have hw : v = some (.int ((g ((0 : Int32).toNatClampNeg)) &&& 15)) := hw
  subst hw
  have hP : va_P D vwCl ([] ++ po) H := hP
  have hD : va_D _ ([] ++ po) := hD
  refine W.eq (g2 := F0 m 7 ls [.int ((g ((0 : Int32).toNatClampNeg)) &&& 15)]) rfl ?_
  refine lv_iconst (v := 2) hx hb dX2_isTerm_7 (by decide) ?_
  refine lv_icmp_gt (tgt := 15) hx hb dX2_isTerm_8 (by decide) (fun c_8 => ?_) (fun c_8 => ?_)
  · refine lv_iconst (v := 0) hx hb dX2_isTerm_15 (by decide) ?_
    exact ck_iret () hx hb hr rfl hlocks (congrArg (fun z9 => some (Value.int z9)) (show (0 : Int32) = k_term (g ((0 : Int32).toNatClampNeg)) from (by unfold k_term; rw [if_pos c_8]))) (hP.part [] rfl) (hK.sub [0] rfl) (hD.part [] (by decide) rfl) hS (by decide) (by decide) dX2_isTerm_16
  · refine lv_iconst (v := 1) hx hb dX2_isTerm_11 (by decide) ?_
    refine lv_goto (tgt := 16) hx hb dX2_isTerm_12 (by decide) ?_
    exact ck_iret () hx hb hr rfl hlocks (congrArg (fun z9 => some (Value.int z9)) (show (1 : Int32) = k_term (g ((0 : Int32).toNatClampNeg)) from (by unfold k_term; rw [if_neg c_8]))) (hP.part [] rfl) (hK.sub [0] rfl) (hD.part [] (by decide) rfl) hS (by decide) (by decide) dX2_isTerm_16
