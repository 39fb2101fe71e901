set_option maxHeartbeats 4000000 in
set_option maxRecDepth 100000 in
theorem bindAll_loop {p : Program} {l : Launch} {e : Env} {s : State} {m : MethodId} {args : Array Value} {below : List Frame} {meth : Method} {c : Code} {Q : State → Prop} {D : va_G} {A : Nat → Prop} {r rc : Nat} {cR : ClassId} {F : Nat → Int32} {n z : Int32} {a : Int32} (hx : p.tables.exec = Jvm.exec) (hb : c.code = cX4_bindAll) (hml : c.maxLocals = 3) (hown : s.vm.findClass RX4 = some m.cls) (hts : ∀ w ∈ lw_G, w.before args s = true) (hE : ev s) (hZ : zz A s s.heap) (hA : ∀ q, s.heap.size ≤ q → A q) (hn : r_ok n) (hK : va_K D vwCl [(cR, .int)] s) (kont : ∀ (H : Heap) (locs : List Loc) (ls : Array Slot), va_P D vwCl [(r, .inr (3, [.ref rc, .int n, .int z])), (rc, .inl (cR, 512, .inl (mapTo (b_all a) F n.toNatClampNeg)))] H → va_D A [(r, .inr (3, [.ref rc, .int n, .int z])), (rc, .inl (cR, 512, .inl (mapTo (b_all a) F n.toNatClampNeg)))] → va_S A s.heap H locs → lv_has ls 3 [(1, .int a), (0, .ref r)] → W p l e (rmK 16 480 0 0) s m args below meth c H locs 0 0 Q (F0 m 92 ls [])) :
    ∀ (k i : Nat) (H : Heap) (locs : List Loc) (ls : Array Slot), i + k = n.toNatClampNeg → va_P D vwCl [(r, .inr (3, [.ref rc, .int n, .int z])), (rc, .inl (cR, 512, .inl (mapTo (b_all a) F i)))] H → va_D A [(r, .inr (3, [.ref rc, .int n, .int z])), (rc, .inl (cR, 512, .inl (mapTo (b_all a) F i)))] → va_S A s.heap H locs → lv_has ls 3 [(2, .int (nI i)), (1, .int a), (0, .ref r)] → W p l e (rmK 16 480 0 0) s m args below meth c H locs 0 0 Q (F0 m 17 ls []) := by
  obtain ⟨N, hN1, hN2, eN, eC⟩ := r_nat hn
  intro k
  induction k with
  | zero =>
    intro i H locs ls hi hP hD hS hl
    refine lv_iload_n hx hb dX4_bindAll_17 rfl (lv_at hl 0 rfl) ?_
    refine lv_aload_n hx hb dX4_bindAll_18 rfl (lv_at hl 2 rfl) ?_
    refine va_get (ci := 3) (v := .int n) (C := RX4) (T := TX4) (N := 3) hx hb hts inG_X4 hown hK hP 0 rfl rfl 1 (by decide) (hts _ tw_1_62) (fun _ h9 => h9) rfl dX4_bindAll_19 ?_
    refine lv_icmp_ge (tgt := 92) hx hb dX4_bindAll_22 (by decide) (fun _ => ?_) (fun c9 => absurd (by rw [eN, show i = N by omega]; exact Int32.le_refl _) c9)
    have ei : i = n.toNatClampNeg := by omega
    rw [ei] at hP hD
    exact kont H locs ls hP hD hS (lv_sub hl [1, 2] rfl)
  | succ k ih =>
    intro i H locs ls hi hP hD hS hl
    refine lv_iload_n hx hb dX4_bindAll_17 rfl (lv_at hl 0 rfl) ?_
    refine lv_aload_n hx hb dX4_bindAll_18 rfl (lv_at hl 2 rfl) ?_
    refine va_get (ci := 3) (v := .int n) (C := RX4) (T := TX4) (N := 3) hx hb hts inG_X4 hown hK hP 0 rfl rfl 1 (by decide) (hts _ tw_1_62) (fun _ h9 => h9) rfl dX4_bindAll_19 ?_
    refine lv_icmp_ge (tgt := 92) hx hb dX4_bindAll_22 (by decide) (fun c9 => absurd c9 (by rw [eN]; exact nI_ge (by omega) (by omega))) (fun _ => ?_)
    refine lv_iload_n hx hb dX4_bindAll_25 rfl (lv_at hl 0 rfl) ?_
    refine lv_sipush (v := 512) hx hb dX4_bindAll_26 (by decide) ?_
    refine lv_icmp_ge (tgt := 92) hx hb dX4_bindAll_29 (by decide) (fun c9 => absurd c9 (by rw [show (512 : Int32) = nI 512 from rfl]; exact nI_ge (by omega) (by decide))) (fun _ => ?_)
    refine lv_aload_n hx hb dX4_bindAll_32 rfl (lv_at hl 2 rfl) ?_
    refine va_get (ci := 3) (v := .ref rc) (C := RX4) (T := TX4) (N := 3) hx hb hts inG_X4 hown hK hP 0 rfl rfl 0 (by decide) (hts _ tw_1_61) (fun _ h9 => h9) rfl dX4_bindAll_33 ?_
    refine lv_iload_n hx hb dX4_bindAll_36 rfl (lv_at hl 0 rfl) ?_
    refine va_iald hx hb hK hP 1 0 rfl rfl (by rw [vp_in_iff, nI_toInt (by omega)]; omega) dX4_bindAll_37 ?_
    refine ck_top (y := F i) (by rw [nI_clamp (by omega)]; exact mapTo_at _ _ _) ?_
    refine lv_iload_n hx hb dX4_bindAll_38 rfl (lv_at hl 1 rfl) ?_
    refine lv_icmp_ne (tgt := 52) hx hb dX4_bindAll_39 (by decide) (fun c_39 => ?_) (fun c_39 => ?_)
    · refine lv_aload_n hx hb dX4_bindAll_52 rfl (lv_at hl 2 rfl) ?_
      refine va_get (ci := 3) (v := .ref rc) (C := RX4) (T := TX4) (N := 3) hx hb hts inG_X4 hown hK hP 0 rfl rfl 0 (by decide) (hts _ tw_1_61) (fun _ h9 => h9) rfl dX4_bindAll_53 ?_
      refine lv_iload_n hx hb dX4_bindAll_56 rfl (lv_at hl 0 rfl) ?_
      refine va_iald hx hb hK hP 1 0 rfl rfl (by rw [vp_in_iff, nI_toInt (by omega)]; omega) dX4_bindAll_57 ?_
      refine ck_top (y := F i) (by rw [nI_clamp (by omega)]; exact mapTo_at _ _ _) ?_
      refine ck_run (wr := [(r, .inr (3, [.ref rc, .int n, .int z])), (rc, .inl (cR, 512, .inl (mapTo (b_all a) F i)))]) (va_runS (As := [.int (F i)]) (rest := []) ⟨hx, hb, hml, hown, hts⟩ (c_kind l D H.size (F i)) (cw_S (n := 1) hts tw_2_177 tw_1_101 tw_1_8 tw_1_102 (by decide +kernel) ⟨by decide, by decide⟩) ⟨pre.blind, fun U hU hW => ⟨rfl, pre.of (wc := []) (tysc := []) (tk := []) hP hD hK hS hA hE hZ [] (by decide) rfl rfl rfl U hU hW⟩⟩ rfl rfl hl.1 rfl (lv_room (Nat.le_of_ble_eq_true rfl)) dX4_bindAll_58 ⟨by decide, by decide⟩) hP hD hK hS hA [] [0, 1] rfl rfl (by decide) (by decide) (fun v u H locs hw hP hD hK9 hS => ?_)
      have hw : v = some (.int ((F i) &&& 15)) := hw
      subst hw
      have hP : va_P D vwCl [(r, .inr (3, [.ref rc, .int n, .int z])), (rc, .inl (cR, 512, .inl (mapTo (b_all a) F i)))] H := hP
      have hD : va_D _ [(r, .inr (3, [.ref rc, .int n, .int z])), (rc, .inl (cR, 512, .inl (mapTo (b_all a) F i)))] := hD
      refine W.eq (g2 := F0 m 61 ls [.int ((F i) &&& 15)]) rfl ?_
      refine lv_iconst (v := 2) hx hb dX4_bindAll_61 (by decide) ?_
      refine lv_icmp_ne (tgt := 86) hx hb dX4_bindAll_62 (by decide) (fun c_62 => ?_) (fun c_62 => ?_)
      · obtain ⟨z_1, ez_1⟩ : ∃ z : Int32, z = (nI i) + 1 := ⟨_, rfl⟩
        refine lv_iinc (v := z_1) (lv' := [(2, .int z_1), (1, .int a), (0, .ref r)]) hx hb dX4_bindAll_86 hl (k := 0) rfl (by rw [ez_1]; rfl) (by decide) rfl (fun ls hl => ?_)
        refine lv_goto (tgt := 17) hx hb dX4_bindAll_89 (by decide) ?_
        have ez : z_1 = nI (i + 1) := by rw [ez_1]; exact nI_1 i
        subst ez
        have ef : mapTo (b_all a) F i = mapTo (b_all a) F (i + 1) := mapTo_same (by unfold b_all; rw [if_neg c_39, if_neg c_62])
        rw [ef] at hP hD
        exact ih (i + 1) H _ ls (by omega) (hP.sub [0, 1] rfl) (hD.sub [0, 1] (by decide) rfl) hS (lv_sub hl [0, 1, 2] rfl)
      · refine lv_aload_n hx hb dX4_bindAll_65 rfl (lv_at hl 2 rfl) ?_
        refine va_get (ci := 3) (v := .ref rc) (C := RX4) (T := TX4) (N := 3) hx hb hts inG_X4 hown hK hP 0 rfl rfl 0 (by decide) (hts _ tw_1_61) (fun _ h9 => h9) rfl dX4_bindAll_66 ?_
        refine lv_iload_n hx hb dX4_bindAll_69 rfl (lv_at hl 0 rfl) ?_
        refine lv_iconst (v := 2) hx hb dX4_bindAll_70 (by decide) ?_
        refine lv_aload_n hx hb dX4_bindAll_71 rfl (lv_at hl 2 rfl) ?_
        refine va_get (ci := 3) (v := .ref rc) (C := RX4) (T := TX4) (N := 3) hx hb hts inG_X4 hown hK hP 0 rfl rfl 0 (by decide) (hts _ tw_1_61) (fun _ h9 => h9) rfl dX4_bindAll_72 ?_
        refine lv_iload_n hx hb dX4_bindAll_75 rfl (lv_at hl 0 rfl) ?_
        refine va_iald hx hb hK hP 1 0 rfl rfl (by rw [vp_in_iff, nI_toInt (by omega)]; omega) dX4_bindAll_76 ?_
        refine ck_top (y := F i) (by rw [nI_clamp (by omega)]; exact mapTo_at _ _ _) ?_
        refine ck_run (wr := [(r, .inr (3, [.ref rc, .int n, .int z])), (rc, .inl (cR, 512, .inl (mapTo (b_all a) F i)))]) (va_runS (As := [.int (F i)]) (rest := [.int 2, .int (nI i), .ref rc]) ⟨hx, hb, hml, hown, hts⟩ (c_value l D H.size (F i)) (cw_S (n := 1) hts tw_2_185 tw_1_98 tw_1_8 tw_1_99 (by decide +kernel) ⟨by decide, by decide⟩) ⟨pre.blind, fun U hU hW => ⟨rfl, pre.of (wc := []) (tysc := []) (tk := []) hP hD hK hS hA hE hZ [] (by decide) rfl rfl rfl U hU hW⟩⟩ rfl rfl hl.1 rfl (lv_room (Nat.le_of_ble_eq_true rfl)) dX4_bindAll_77 ⟨by decide, by decide⟩) hP hD hK hS hA [] [0, 1] rfl rfl (by decide) (by decide) (fun v u H locs hw hP hD hK9 hS => ?_)
        have hw : v = some (.int ((F i) >>> ((4 : Int32) &&& 31))) := hw
        subst hw
        have hP : va_P D vwCl [(r, .inr (3, [.ref rc, .int n, .int z])), (rc, .inl (cR, 512, .inl (mapTo (b_all a) F i)))] H := hP
        have hD : va_D _ [(r, .inr (3, [.ref rc, .int n, .int z])), (rc, .inl (cR, 512, .inl (mapTo (b_all a) F i)))] := hD
        refine W.eq (g2 := F0 m 80 ls [.int ((F i) >>> ((4 : Int32) &&& 31)), .int 2, .int (nI i), .ref rc]) rfl ?_
        refine lv_iconst (v := 1) hx hb dX4_bindAll_80 (by decide) ?_
        refine lv_iadd hx hb dX4_bindAll_81 ?_
        refine ck_top (y := F i >>> ((4 : Int32) &&& 31) + 1) rfl ?_
        refine ck_run (wr := [(r, .inr (3, [.ref rc, .int n, .int z])), (rc, .inl (cR, 512, .inl (mapTo (b_all a) F i)))]) (va_runS (As := [.int 2, .int (F i >>> ((4 : Int32) &&& 31) + 1)]) (rest := [.int (nI i), .ref rc]) ⟨hx, hb, hml, hown, hts⟩ (c_of l D H.size 2 (F i >>> ((4 : Int32) &&& 31) + 1)) (cw_S (n := 2) hts tw_2_186 tw_2_60 tw_1_8 tw_2_61 (by decide +kernel) ⟨by decide, by decide⟩) ⟨pre.blind, fun U hU hW => ⟨rfl, pre.of (wc := []) (tysc := []) (tk := []) hP hD hK hS hA hE hZ [] (by decide) rfl rfl rfl U hU hW⟩⟩ rfl rfl hl.1 rfl (lv_room (Nat.le_of_ble_eq_true rfl)) dX4_bindAll_82 ⟨by decide, by decide⟩) hP hD hK hS hA [] [0, 1] rfl rfl (by decide) (by decide) (fun v u H locs hw hP hD hK9 hS => ?_)
        have hw : v = some (.int ((F i >>> ((4 : Int32) &&& 31) + 1) <<< ((4 : Int32) &&& 31) ||| 2)) := hw
        subst hw
        have hP : va_P D vwCl [(r, .inr (3, [.ref rc, .int n, .int z])), (rc, .inl (cR, 512, .inl (mapTo (b_all a) F i)))] H := hP
        have hD : va_D _ [(r, .inr (3, [.ref rc, .int n, .int z])), (rc, .inl (cR, 512, .inl (mapTo (b_all a) F i)))] := hD
        refine W.eq (g2 := F0 m 85 ls [.int ((F i >>> ((4 : Int32) &&& 31) + 1) <<< ((4 : Int32) &&& 31) ||| 2), .int (nI i), .ref rc]) rfl ?_
        refine va_iast hx hb hK hP hD hS 1 0 rfl rfl (by rw [vp_in_iff, nI_toInt (by omega)]; omega) dX4_bindAll_85 (fun H locs hP hD hS => ?_)
        have hP : va_P D vwCl [(r, .inr (3, [.ref rc, .int n, .int z])), (rc, .inl (cR, 512, .inl (upd (mapTo (b_all a) F i) ((nI i).toNatClampNeg) ((F i >>> ((4 : Int32) &&& 31) + 1) <<< ((4 : Int32) &&& 31) ||| 2))))] H := hP
        have hD : va_D _ [(r, .inr (3, [.ref rc, .int n, .int z])), (rc, .inl (cR, 512, .inl (upd (mapTo (b_all a) F i) ((nI i).toNatClampNeg) ((F i >>> ((4 : Int32) &&& 31) + 1) <<< ((4 : Int32) &&& 31) ||| 2))))] := hD
        obtain ⟨z_2, ez_2⟩ : ∃ z : Int32, z = (nI i) + 1 := ⟨_, rfl⟩
        refine lv_iinc (v := z_2) (lv' := [(2, .int z_2), (1, .int a), (0, .ref r)]) hx hb dX4_bindAll_86 hl (k := 0) rfl (by rw [ez_2]; rfl) (by decide) rfl (fun ls hl => ?_)
        refine lv_goto (tgt := 17) hx hb dX4_bindAll_89 (by decide) ?_
        have ez : z_2 = nI (i + 1) := by rw [ez_2]; exact nI_1 i
        subst ez
        have ef : upd (mapTo (b_all a) F i) ((nI i).toNatClampNeg) ((F i >>> ((4 : Int32) &&& 31) + 1) <<< ((4 : Int32) &&& 31) ||| 2) = mapTo (b_all a) F (i + 1) := by rw [nI_clamp (show i < 2 ^ 31 by omega)]; exact mapTo_up (by unfold b_all; rw [if_neg c_39, if_pos c_62])
        rw [ef] at hP hD
        exact ih (i + 1) H _ ls (by omega) (hP.sub [0, 1] rfl) (hD.sub [0, 1] (by decide) rfl) hS (lv_sub hl [0, 1, 2] rfl)
    · refine lv_aload_n hx hb dX4_bindAll_42 rfl (lv_at hl 2 rfl) ?_
      refine va_get (ci := 3) (v := .ref rc) (C := RX4) (T := TX4) (N := 3) hx hb hts inG_X4 hown hK hP 0 rfl rfl 0 (by decide) (hts _ tw_1_61) (fun _ h9 => h9) rfl dX4_bindAll_43 ?_
      refine lv_iload_n hx hb dX4_bindAll_46 rfl (lv_at hl 0 rfl) ?_
      refine lv_iconst (v := 2) hx hb dX4_bindAll_47 (by decide) ?_
      refine va_iast hx hb hK hP hD hS 1 0 rfl rfl (by rw [vp_in_iff, nI_toInt (by omega)]; omega) dX4_bindAll_48 (fun H locs hP hD hS => ?_)
      have hP : va_P D vwCl [(r, .inr (3, [.ref rc, .int n, .int z])), (rc, .inl (cR, 512, .inl (upd (mapTo (b_all a) F i) ((nI i).toNatClampNeg) 2)))] H := hP
      have hD : va_D _ [(r, .inr (3, [.ref rc, .int n, .int z])), (rc, .inl (cR, 512, .inl (upd (mapTo (b_all a) F i) ((nI i).toNatClampNeg) 2)))] := hD
      refine lv_goto (tgt := 86) hx hb dX4_bindAll_49 (by decide) ?_
      obtain ⟨z_3, ez_3⟩ : ∃ z : Int32, z = (nI i) + 1 := ⟨_, rfl⟩
      refine lv_iinc (v := z_3) (lv' := [(2, .int z_3), (1, .int a), (0, .ref r)]) hx hb dX4_bindAll_86 hl (k := 0) rfl (by rw [ez_3]; rfl) (by decide) rfl (fun ls hl => ?_)
      refine lv_goto (tgt := 17) hx hb dX4_bindAll_89 (by decide) ?_
      have ez : z_3 = nI (i + 1) := by rw [ez_3]; exact nI_1 i
      subst ez
      have ef : upd (mapTo (b_all a) F i) ((nI i).toNatClampNeg) 2 = mapTo (b_all a) F (i + 1) := by rw [nI_clamp (show i < 2 ^ 31 by omega)]; exact mapTo_up (by unfold b_all; rw [if_pos c_39])
      rw [ef] at hP hD
      exact ih (i + 1) H _ ls (by omega) (hP.sub [0, 1] rfl) (hD.sub [0, 1] (by decide) rfl) hS (lv_sub hl [0, 1, 2] rfl)
set_option maxHeartbeats 4000000 in
set_option maxRecDepth 100000 in
theorem c_bindAll (l : Launch) (D : va_G) (sz : Nat) (r rc : Nat) (cR : ClassId) (f : Nat → Int32) (n z : Int32) (a : Int32) (hn : r_ok n) : cM l yX4_bindAll (.code yX4_bindAll cX4_bindAll 3 none) 16 480 0 0 [.ref r, .int a] D [(cR, .int)] [(r, .inr (3, [.ref rc, .int n, .int z])), (rc, .inl (cR, 512, .inl f))] sz (S := (Nat → Int32) × Int32 × Int32) (fun v u => v = none ∧ r_bindAll a f n z = (u.1, u.2.1, u.2.2)) (fun u => [(r, .inr (3, [.ref rc, .int u.2.1, .int u.2.2])), (rc, .inl (cR, 512, .inl u.1))]) (fun u => [(cR, .int)]) := by
  refine cM_of (by decide) (Nat.le_of_ble_eq_true rfl) ?_
  intro p e s m below meth c ls hF hsz hP hK hD hE hZ hA hl
  obtain ⟨hx, hb, hr, hml, hown, hlocks, hnm, htb, hts⟩ := hF
  have hown : s.vm.findClass RX4 = some m.cls := hown
  have hl : lv_has ls 3 [(0, .ref r), (1, .int a)] := hl
  have hS : va_S (va_A [(r, .inr (3, [.ref rc, .int n, .int z])), (rc, .inl (cR, 512, .inl f))] sz) s.heap s.heap [] := va_S.rf
  refine lv_aload_n hx hb dX4_bindAll_0 rfl (lv_at hl 0 rfl) ?_
  refine va_get (ci := 3) (v := .int z) (C := RX4) (T := TX4) (N := 3) hx hb hts inG_X4 hown hK hP 0 rfl rfl 2 (by decide) (hts _ tw_1_63) (fun _ h9 => h9) rfl dX4_bindAll_1 ?_
  refine lv_if_ne (tgt := 14) hx hb dX4_bindAll_4 (by decide) (fun c_4 => ?_) (fun c_4 => ?_)
  · exact ck_vret ⟨f, n, z⟩ hx hb hr hlocks ⟨rfl, (by first | (unfold r_bindAll; rw [if_neg c_4] <;> (first | rfl)) | (simp only [r_bindAll, if_neg c_4]))⟩ (hP.sub [0, 1] rfl) (hK.sub [0] rfl) (hD.sub [0, 1] (by decide) rfl) hS (by decide) (by decide) dX4_bindAll_14
  · refine lv_aload_n hx hb dX4_bindAll_7 rfl (lv_at hl 0 rfl) ?_
    refine ck_run (wr := []) (va_runV (C := RX4) (As := []) (rest := []) ⟨hx, hb, hml, hown, hts⟩ (c_isTrue l D s.heap.size r rc cR f n z) (cw_V (n := 0) hts tw_2_169 tw_2_171 tw_s18 tw_1_3 tw_2_172 (by decide +kernel) ⟨by decide, by decide⟩) ⟨pre.blind, va_recv (q := (RX4, TX4, 3)) hK hP (ci := 3) (q0 := 0) rfl rfl, fun U hU hW => ⟨rfl, pre.of (wc := [(r, .inr (3, [.ref rc, .int n, .int z])), (rc, .inl (cR, 512, .inl f))]) (tysc := [(cR, .int)]) (tk := [0]) hP hD hK hS hA hE hZ [0, 1] (by decide) rfl rfl rfl U hU hW⟩⟩ rfl rfl hl.1 rfl (lv_room (Nat.le_of_ble_eq_true rfl)) dX4_bindAll_8 ⟨by decide, by decide⟩) hP hD hK hS hA [0, 1] [] rfl rfl (by decide) (by decide) (fun v u H locs hw hP hD hK9 hS => ?_)
    have hw : v = some (.int (r_isTrue f z)) := hw
    subst hw
    have hP : va_P D vwCl [(r, .inr (3, [.ref rc, .int n, .int z])), (rc, .inl (cR, 512, .inl f))] H := hP
    have hD : va_D _ [(r, .inr (3, [.ref rc, .int n, .int z])), (rc, .inl (cR, 512, .inl f))] := hD
    refine W.eq (g2 := F0 m 11 ls [.int (r_isTrue f z)]) rfl ?_
    refine lv_if_eq (tgt := 15) hx hb dX4_bindAll_11 (by decide) (fun c_11 => ?_) (fun c_11 => ?_)
    · refine lv_iconst (v := 0) hx hb dX4_bindAll_15 (by decide) ?_
      refine lv_istore_n (lv' := [(2, .int 0), (0, .ref r), (1, .int a)]) hx hb dX4_bindAll_16 rfl hl (by decide) rfl (fun ls hl => ?_)
      refine bindAll_loop (F := f) (n := n) (z := z) hx hb hml hown hts hE hZ hA hn hK (fun H locs ls hP hD hS hl => ?_) _ 0 H _ ls (Nat.zero_add _) (hP.sub [0, 1] (by rw [mapTo_0]; rfl)) (hD.sub [0, 1] (by decide) (by rw [mapTo_0]; rfl)) hS (lv_sub hl [0, 2, 1] rfl)
      refine lv_aload_n hx hb dX4_bindAll_92 rfl (lv_at hl 1 rfl) ?_
      refine lv_bipush (v := 8) hx hb dX4_bindAll_93 (by decide) ?_
      refine ck_run (wr := []) (va_runV (C := RX4) (As := [.int 8]) (rest := []) ⟨hx, hb, hml, hown, hts⟩ (c_put l D H.size r rc cR (mapTo (b_all a) f n.toNatClampNeg) n z 8 hn) (cw_V (n := 1) hts tw_2_149 tw_2_151 tw_s14 tw_1_3 tw_2_152 (by decide +kernel) ⟨by decide, by decide⟩) ⟨pre.blind, va_recv (q := (RX4, TX4, 3)) hK hP (ci := 3) (q0 := 0) rfl rfl, fun U hU hW => ⟨rfl, pre.of (wc := [(r, .inr (3, [.ref rc, .int n, .int z])), (rc, .inl (cR, 512, .inl (mapTo (b_all a) f n.toNatClampNeg)))]) (tysc := [(cR, .int)]) (tk := [0]) hP hD hK hS hA hE hZ [0, 1] (by decide) rfl rfl rfl U hU hW⟩⟩ rfl rfl hl.1 rfl (lv_room (Nat.le_of_ble_eq_true rfl)) dX4_bindAll_95 ⟨by decide, by decide⟩) hP hD hK hS hA [0, 1] [] rfl rfl (by decide) (by decide) (fun v u H locs hw hP hD hK9 hS => ?_)
      obtain ⟨f1_1, n1_2, z1_3⟩ := u
      have hw : v = none ∧ r_put 8 (mapTo (b_all a) f n.toNatClampNeg) n z = (f1_1, n1_2, z1_3) := hw
      obtain ⟨rfl, hq_4⟩ := hw
      have hP : va_P D vwCl [(r, .inr (3, [.ref rc, .int n1_2, .int z1_3])), (rc, .inl (cR, 512, .inl f1_1))] H := hP
      have hD : va_D _ [(r, .inr (3, [.ref rc, .int n1_2, .int z1_3])), (rc, .inl (cR, 512, .inl f1_1))] := hD
      refine W.eq (g2 := F0 m 98 ls []) rfl ?_
      exact ck_vret ⟨f1_1, n1_2, z1_3⟩ hx hb hr hlocks ⟨rfl, (by first | (unfold r_bindAll; rw [if_pos c_4, if_pos c_11] <;> (first | rfl | exact hq_4)) | (simp only [r_bindAll, if_pos c_4, if_pos c_11, hq_4]))⟩ (hP.sub [0, 1] rfl) (hK.sub [0] rfl) (hD.sub [0, 1] (by decide) rfl) hS (by decide) (by decide) dX4_bindAll_98
    · exact ck_vret ⟨f, n, z⟩ hx hb hr hlocks ⟨rfl, (by first | (unfold r_bindAll; rw [if_pos c_4, if_neg c_11] <;> (first | rfl)) | (simp only [r_bindAll, if_pos c_4, if_neg c_11]))⟩ (hP.sub [0, 1] rfl) (hK.sub [0] rfl) (hD.sub [0, 1] (by decide) rfl) hS (by decide) (by decide) dX4_bindAll_14
