set_option maxHeartbeats 4000000 in
set_option maxRecDepth 100000 in
theorem c_copy (l : Launch) (D : va_G) (sz : Nat) (r rc : Nat) (cR : ClassId) (f : Nat → Int32) (n z : Int32) (po : va_W) (j : Nat) (q : Nat) (N : Nat) (g : Nat → Int32) (hgc : po[j]? = some (q, .inl (cR, N, .inl g))) (hN : 1 ≤ N ∧ N ≤ 512) (k : Int32) (hn : r_ok n) : cM l yX4_copy (.code yX4_copy cX4_copy 3 none) 10 270 0 0 [.ref r, .ref q, .int k] D [(cR, .int)] ([(r, .inr (3, [.ref rc, .int n, .int z])), (rc, .inl (cR, 512, .inl f))] ++ po) sz (S := (Nat → Int32) × Int32 × Int32) (fun v u => v = none ∧ r_copy g (nI N) k f n z = (u.1, u.2.1, u.2.2)) (fun u => ([(r, .inr (3, [.ref rc, .int u.2.1, .int u.2.2])), (rc, .inl (cR, 512, .inl u.1))] ++ po)) (fun u => [(cR, .int)]) := by
  refine cM_of (by decide) (Nat.le_of_ble_eq_true rfl) ?_
  intro p e s m below meth c ls hF hsz hP hK hD hE hZ hA hl
  obtain ⟨hx, hb, hr, hml, hown, hlocks, hnm, htb, hts⟩ := hF
  have hown : s.vm.findClass RX4 = some m.cls := hown
  have hl : lv_has ls 3 [(0, .ref r), (1, .ref q), (2, .int k)] := hl
  have hS : va_S (va_A ([(r, .inr (3, [.ref rc, .int n, .int z])), (rc, .inl (cR, 512, .inl f))] ++ po) sz) s.heap s.heap [] := va_S.rf
  refine lv_iload_n hx hb dX4_copy_0 rfl (lv_at hl 2 rfl) ?_
  refine lv_iconst (v := 1) hx hb dX4_copy_1 (by decide) ?_
  refine lv_icmp_lt (tgt := 18) hx hb dX4_copy_2 (by decide) (fun c_2 => ?_) (fun c_2 => ?_)
  · exact ck_vret ⟨f, n, z⟩ hx hb hr hlocks ⟨rfl, (by first | (unfold r_copy; rw [if_pos c_2] <;> (first | rfl)) | (simp only [r_copy, if_pos c_2]))⟩ (hP.part [0, 1] rfl) (hK.sub [0] rfl) (hD.part [0, 1] (by decide) rfl) hS (by decide) (by decide) dX4_copy_18
  · refine lv_iload_n hx hb dX4_copy_5 rfl (lv_at hl 2 rfl) ?_
    refine lv_aload_n hx hb dX4_copy_6 rfl (lv_at hl 1 rfl) ?_
    refine va_alen hx hb hK hP (j + 2) 0 hgc rfl (v := nI N) rfl dX4_copy_7 ?_
    refine lv_icmp_gt (tgt := 18) hx hb dX4_copy_8 (by decide) (fun c_8 => ?_) (fun c_8 => ?_)
    · exact ck_vret ⟨f, n, z⟩ hx hb hr hlocks ⟨rfl, (by first | (unfold r_copy; rw [if_neg c_2, if_pos c_8] <;> (first | rfl)) | (simp only [r_copy, if_neg c_2, if_pos c_8]))⟩ (hP.part [0, 1] rfl) (hK.sub [0] rfl) (hD.part [0, 1] (by decide) rfl) hS (by decide) (by decide) dX4_copy_18
    · refine lv_iload_n hx hb dX4_copy_11 rfl (lv_at hl 2 rfl) ?_
      refine lv_sipush (v := 512) hx hb dX4_copy_12 (by decide) ?_
      refine lv_icmp_le (tgt := 19) hx hb dX4_copy_15 (by decide) (fun c_15 => ?_) (fun c_15 => ?_)
      · refine lv_aload_n hx hb dX4_copy_19 rfl (lv_at hl 1 rfl) ?_
        refine lv_iconst (v := 0) hx hb dX4_copy_20 (by decide) ?_
        refine lv_aload_n hx hb dX4_copy_21 rfl (lv_at hl 0 rfl) ?_
        refine va_get (ci := 3) (v := .ref rc) (C := RX4) (T := TX4) (N := 3) hx hb hts inG_X4 hown hK hP 0 rfl rfl 0 (by decide) (hts _ tw_1_61) (fun _ h9 => h9) rfl dX4_copy_22 ?_
        refine lv_iconst (v := 0) hx hb dX4_copy_25 (by decide) ?_
        refine lv_iload_n hx hb dX4_copy_26 rfl (lv_at hl 2 rfl) ?_
        refine va_copyi (ty := .int) hx hb (hml.trans hl.1.symm) hown (hts _ tw_2_140) (hts _ tw_acn) (hts _ tw_acs) (hts _ tw_aci) hK hP hD hS (j + 2) 1 0 0 hgc rfl rfl rfl rfl (by decide) (by decide) (r_ge0 ((k_ok hN.2 c_2 c_8).1)) (by have q := (k_ok hN.2 c_2 c_8).2; rw [sb_cl0]; omega) (by have q := r_cl ((k_ok hN.2 c_2 c_8).1); rw [sb_cl0]; omega) (fun _ _ => rfl) (by decide) (Nat.le_of_ble_eq_true rfl) dX4_copy_27 (fun H locs hP hD hS => ?_)
        have hP : va_P D vwCl ([(r, .inr (3, [.ref rc, .int n, .int z])), (rc, .inl (cR, 512, .inl (va_cpy g f ((0 : Int32).toNatClampNeg) ((0 : Int32).toNatClampNeg) (k.toNatClampNeg))))] ++ po) H := hP
        have hD : va_D _ ([(r, .inr (3, [.ref rc, .int n, .int z])), (rc, .inl (cR, 512, .inl (va_cpy g f ((0 : Int32).toNatClampNeg) ((0 : Int32).toNatClampNeg) (k.toNatClampNeg))))] ++ po) := hD
        refine lv_aload_n hx hb dX4_copy_30 rfl (lv_at hl 0 rfl) ?_
        refine lv_iload_n hx hb dX4_copy_31 rfl (lv_at hl 2 rfl) ?_
        refine va_put (ci := 3) (v := .int k) (ty := .int) (C := RX4) (T := TX4) (N := 3) hx hb hts inG_X4 tyX4 tyX4_ok nmX4 hown hK hP hD hS 0 rfl rfl 1 (by decide) (hts _ tw_1_62) (fun _ h9 => h9) rfl (by decide +kernel) rfl rfl (Nat.le_of_ble_eq_true rfl) dX4_copy_32 (fun H locs hP hD hS => ?_)
        have hP : va_P D vwCl ([(r, .inr (3, [.ref rc, .int k, .int z])), (rc, .inl (cR, 512, .inl (va_cpy g f ((0 : Int32).toNatClampNeg) ((0 : Int32).toNatClampNeg) (k.toNatClampNeg))))] ++ po) H := hP
        have hD : va_D _ ([(r, .inr (3, [.ref rc, .int k, .int z])), (rc, .inl (cR, 512, .inl (va_cpy g f ((0 : Int32).toNatClampNeg) ((0 : Int32).toNatClampNeg) (k.toNatClampNeg))))] ++ po) := hD
        refine lv_aload_n hx hb dX4_copy_35 rfl (lv_at hl 0 rfl) ?_
        refine lv_iconst (v := 0) hx hb dX4_copy_36 (by decide) ?_
        refine va_put (ci := 3) (v := .int 0) (ty := .boolean) (C := RX4) (T := TX4) (N := 3) hx hb hts inG_X4 tyX4 tyX4_ok nmX4 hown hK hP hD hS 0 rfl rfl 2 (by decide) (hts _ tw_1_63) (fun _ h9 => h9) rfl (by decide +kernel) rfl rfl (Nat.le_of_ble_eq_true rfl) dX4_copy_37 (fun H locs hP hD hS => ?_)
        have hP : va_P D vwCl ([(r, .inr (3, [.ref rc, .int k, .int 0])), (rc, .inl (cR, 512, .inl (va_cpy g f ((0 : Int32).toNatClampNeg) ((0 : Int32).toNatClampNeg) (k.toNatClampNeg))))] ++ po) H := hP
        have hD : va_D _ ([(r, .inr (3, [.ref rc, .int k, .int 0])), (rc, .inl (cR, 512, .inl (va_cpy g f ((0 : Int32).toNatClampNeg) ((0 : Int32).toNatClampNeg) (k.toNatClampNeg))))] ++ po) := hD
        exact ck_vret ⟨va_cpy g f ((0 : Int32).toNatClampNeg) ((0 : Int32).toNatClampNeg) (k.toNatClampNeg), k, 0⟩ hx hb hr hlocks ⟨rfl, (by first | (unfold r_copy; rw [if_neg c_2, if_neg c_8, if_pos c_15] <;> (first | rfl)) | (simp only [r_copy, if_neg c_2, if_neg c_8, if_pos c_15]))⟩ (hP.part [0, 1] rfl) (hK.sub [0] rfl) (hD.part [0, 1] (by decide) rfl) hS (by decide) (by decide) dX4_copy_40
      · exact ck_vret ⟨f, n, z⟩ hx hb hr hlocks ⟨rfl, (by first | (unfold r_copy; rw [if_neg c_2, if_neg c_8, if_neg c_15] <;> (first | rfl)) | (simp only [r_copy, if_neg c_2, if_neg c_8, if_neg c_15]))⟩ (hP.part [0, 1] rfl) (hK.sub [0] rfl) (hD.part [0, 1] (by decide) rfl) hS (by decide) (by decide) dX4_copy_18
set_option maxHeartbeats 4000000 in
set_option maxRecDepth 100000 in
theorem c_before (l : Launch) (D : va_G) (sz : Nat) (r rc : Nat) (cR : ClassId) (f : Nat → Int32) (n z : Int32) (po : va_W) (j : Nat) (q : Nat) (N : Nat) (g : Nat → Int32) (hgc : po[j]? = some (q, .inl (cR, N, .inl g))) (hN : 1 ≤ N ∧ N ≤ 512) (k : Int32) (hk : r_ok k) (hkN : k.toNatClampNeg ≤ N) (hn : r_ok n) : cM l yX4_putBefore (.code yX4_putBefore cX4_putBefore 8 none) 14 410 0 0 [.ref r, .ref q, .int k] D [(cR, .int)] ([(r, .inr (3, [.ref rc, .int n, .int z])), (rc, .inl (cR, 512, .inl f))] ++ po) sz (S := (Nat → Int32) × Int32 × Int32) (fun v u => v = none ∧ r_before g k f n z = (u.1, u.2.1, u.2.2)) (fun u => ([(r, .inr (3, [.ref rc, .int u.2.1, .int u.2.2])), (rc, .inl (cR, 512, .inl u.1))] ++ po)) (fun u => [(cR, .int)]) := by
  refine cM_of (by decide) (Nat.le_of_ble_eq_true rfl) ?_
  intro p e s m below meth c ls hF hsz hP hK hD hE hZ hA hl
  obtain ⟨hx, hb, hr, hml, hown, hlocks, hnm, htb, hts⟩ := hF
  have hown : s.vm.findClass RX4 = some m.cls := hown
  have hl : lv_has ls 8 [(0, .ref r), (1, .ref q), (2, .int k)] := hl
  have hS : va_S (va_A ([(r, .inr (3, [.ref rc, .int n, .int z])), (rc, .inl (cR, 512, .inl f))] ++ po) sz) s.heap s.heap [] := va_S.rf
  refine lv_aload_n hx hb dX4_putBefore_0 rfl (lv_at hl 1 rfl) ?_
  refine lv_iconst (v := 0) hx hb dX4_putBefore_1 (by decide) ?_
  refine va_iald hx hb hK hP (j + 2) 0 hgc rfl (g_in0 hN.1) dX4_putBefore_2 ?_
  refine ck_top (y := g ((0 : Int32).toNatClampNeg)) rfl ?_
  refine ck_runQ (wr := [(r, .inr (3, [.ref rc, .int n, .int z])), (rc, .inl (cR, 512, .inl f))]) (va_runS (As := [.int (g ((0 : Int32).toNatClampNeg))]) (rest := []) ⟨hx, hb, hml, hown, hts⟩ (c_kind l D s.heap.size (g ((0 : Int32).toNatClampNeg))) (cw_S (n := 1) hts tw_2_177 tw_1_101 tw_1_8 tw_1_102 (by decide +kernel) ⟨by decide, by decide⟩) ⟨pre.blind, fun U hU hW => ⟨rfl, pre.of (wc := []) (tysc := []) (tk := []) hP.left hD.left hK hS hA hE hZ [] (by decide) rfl rfl rfl U hU hW⟩⟩ rfl rfl hl.1 rfl (lv_room (Nat.le_of_ble_eq_true rfl)) dX4_putBefore_3 ⟨by decide, by decide⟩) hP hD hK hS hA [] [0, 1] rfl rfl (by decide) (by decide) (fun v u H locs hw hP hD hK9 hS => ?_)
  have hw : v = some (.int ((g ((0 : Int32).toNatClampNeg)) &&& 15)) := hw
  subst hw
  have hP : va_P D vwCl ([(r, .inr (3, [.ref rc, .int n, .int z])), (rc, .inl (cR, 512, .inl f))] ++ po) H := hP
  have hD : va_D _ ([(r, .inr (3, [.ref rc, .int n, .int z])), (rc, .inl (cR, 512, .inl f))] ++ po) := hD
  refine W.eq (g2 := F0 m 6 ls [.int ((g ((0 : Int32).toNatClampNeg)) &&& 15)]) rfl ?_
  refine lv_bipush (v := 7) hx hb dX4_putBefore_6 (by decide) ?_
  refine lv_icmp_ne (tgt := 15) hx hb dX4_putBefore_8 (by decide) (fun c_8 => ?_) (fun c_8 => ?_)
  · refine lv_iconst (v := 0) hx hb dX4_putBefore_15 (by decide) ?_
    refine lv_istore_n (lv' := [(3, .int 0), (0, .ref r), (1, .ref q), (2, .int k)]) hx hb dX4_putBefore_16 rfl hl (by decide) rfl (fun ls hl => ?_)
    refine lv_aload_n hx hb dX4_putBefore_17 rfl (lv_at hl 1 rfl) ?_
    refine ck_runQ (wr := []) (va_runV (C := RX4) (As := []) (rest := []) ⟨hx, hb, hml, hown, hts⟩ (c_isAnd l D H.size r rc cR f n z) (cw_V (n := 0) hts tw_2_178 tw_2_180 tw_s20 tw_1_3 tw_2_181 (by decide +kernel) ⟨by decide, by decide⟩) ⟨pre.blind, va_recv (q := (RX4, TX4, 3)) hK hP (ci := 3) (q0 := 0) rfl rfl, fun U hU hW => ⟨rfl, pre.of (wc := [(r, .inr (3, [.ref rc, .int n, .int z])), (rc, .inl (cR, 512, .inl f))]) (tysc := [(cR, .int)]) (tk := [0]) hP.left hD.left hK hS hA hE hZ [0, 1] (by decide) rfl rfl rfl U hU hW⟩⟩ rfl rfl hl.1 rfl (lv_room (Nat.le_of_ble_eq_true rfl)) dX4_putBefore_18 ⟨by decide, by decide⟩) hP hD hK hS hA [0, 1] [] rfl rfl (by decide) (by decide) (fun v u H locs hw hP hD hK9 hS => ?_)
    have hw : v = some (.int (r_isAnd f)) := hw
    subst hw
    have hP : va_P D vwCl ([(r, .inr (3, [.ref rc, .int n, .int z])), (rc, .inl (cR, 512, .inl f))] ++ po) H := hP
    have hD : va_D _ ([(r, .inr (3, [.ref rc, .int n, .int z])), (rc, .inl (cR, 512, .inl f))] ++ po) := hD
    refine W.eq (g2 := F0 m 21 ls [.int (r_isAnd f)]) rfl ?_
    refine lv_if_eq (tgt := 28) hx hb dX4_putBefore_21 (by decide) (fun c_21 => ?_) (fun c_21 => ?_)
    · refine lv_iconst (v := 0) hx hb dX4_putBefore_28 (by decide) ?_
      refine lv_istore (lv' := [(4, .int 0), (3, .int 0), (0, .ref r), (1, .ref q), (2, .int k)]) hx hb dX4_putBefore_29 hl (by decide) rfl (fun ls hl => ?_)
      refine lv_aload_n hx hb dX4_putBefore_31 rfl (lv_at hl 3 rfl) ?_
      refine lv_iconst (v := 0) hx hb dX4_putBefore_32 (by decide) ?_
      refine va_iald hx hb hK hP (j + 2) 0 hgc rfl (g_in0 hN.1) dX4_putBefore_33 ?_
      refine ck_top (y := g ((0 : Int32).toNatClampNeg)) rfl ?_
      refine ck_runQ (wr := [(r, .inr (3, [.ref rc, .int n, .int z])), (rc, .inl (cR, 512, .inl f))]) (va_runS (As := [.int (g ((0 : Int32).toNatClampNeg))]) (rest := []) ⟨hx, hb, hml, hown, hts⟩ (c_parts l D H.size (g ((0 : Int32).toNatClampNeg))) (cw_S (n := 1) hts tw_2_182 tw_2_183 tw_1_3 tw_2_184 (by decide +kernel) ⟨by decide, by decide⟩) ⟨pre.blind, fun U hU hW => ⟨rfl, pre.of (wc := []) (tysc := []) (tk := []) hP.left hD.left hK hS hA hE hZ [] (by decide) rfl rfl rfl U hU hW⟩⟩ rfl rfl hl.1 rfl (lv_room (Nat.le_of_ble_eq_true rfl)) dX4_putBefore_34 ⟨by decide, by decide⟩) hP hD hK hS hA [] [0, 1] rfl rfl (by decide) (by decide) (fun v u H locs hw hP hD hK9 hS => ?_)
      have hw : v = some (.int (r_parts (g ((0 : Int32).toNatClampNeg)))) := hw
      subst hw
      have hP : va_P D vwCl ([(r, .inr (3, [.ref rc, .int n, .int z])), (rc, .inl (cR, 512, .inl f))] ++ po) H := hP
      have hD : va_D _ ([(r, .inr (3, [.ref rc, .int n, .int z])), (rc, .inl (cR, 512, .inl f))] ++ po) := hD
      refine W.eq (g2 := F0 m 37 ls [.int (r_parts (g ((0 : Int32).toNatClampNeg)))]) rfl ?_
      refine lv_aload_n hx hb dX4_putBefore_37 rfl (lv_at hl 2 rfl) ?_
      refine va_get (ci := 3) (v := .ref rc) (C := RX4) (T := TX4) (N := 3) hx hb hts inG_X4 hown hK hP 0 rfl rfl 0 (by decide) (hts _ tw_1_61) (fun _ h9 => h9) rfl dX4_putBefore_38 ?_
      refine lv_iconst (v := 0) hx hb dX4_putBefore_41 (by decide) ?_
      refine va_iald hx hb hK hP 1 0 rfl rfl (vi (by decide)) dX4_putBefore_42 ?_
      refine ck_top (y := f ((0 : Int32).toNatClampNeg)) rfl ?_
      refine ck_runQ (wr := [(r, .inr (3, [.ref rc, .int n, .int z])), (rc, .inl (cR, 512, .inl f))]) (va_runS (As := [.int (f ((0 : Int32).toNatClampNeg))]) (rest := [.int (r_parts (g ((0 : Int32).toNatClampNeg)))]) ⟨hx, hb, hml, hown, hts⟩ (c_parts l D H.size (f ((0 : Int32).toNatClampNeg))) (cw_S (n := 1) hts tw_2_182 tw_2_183 tw_1_3 tw_2_184 (by decide +kernel) ⟨by decide, by decide⟩) ⟨pre.blind, fun U hU hW => ⟨rfl, pre.of (wc := []) (tysc := []) (tk := []) hP.left hD.left hK hS hA hE hZ [] (by decide) rfl rfl rfl U hU hW⟩⟩ rfl rfl hl.1 rfl (lv_room (Nat.le_of_ble_eq_true rfl)) dX4_putBefore_43 ⟨by decide, by decide⟩) hP hD hK hS hA [] [0, 1] rfl rfl (by decide) (by decide) (fun v u H locs hw hP hD hK9 hS => ?_)
      have hw : v = some (.int (r_parts (f ((0 : Int32).toNatClampNeg)))) := hw
      subst hw
      have hP : va_P D vwCl ([(r, .inr (3, [.ref rc, .int n, .int z])), (rc, .inl (cR, 512, .inl f))] ++ po) H := hP
      have hD : va_D _ ([(r, .inr (3, [.ref rc, .int n, .int z])), (rc, .inl (cR, 512, .inl f))] ++ po) := hD
      refine W.eq (g2 := F0 m 46 ls [.int (r_parts (f ((0 : Int32).toNatClampNeg))), .int (r_parts (g ((0 : Int32).toNatClampNeg)))]) rfl ?_
      refine lv_iadd hx hb dX4_putBefore_46 ?_
      refine ck_top (y := r_parts (g ((0 : Int32).toNatClampNeg)) + r_parts (f ((0 : Int32).toNatClampNeg))) rfl ?_
      refine lv_istore (lv' := [(5, .int (r_parts (g ((0 : Int32).toNatClampNeg)) + r_parts (f ((0 : Int32).toNatClampNeg)))), (4, .int 0), (3, .int 0), (0, .ref r), (1, .ref q), (2, .int k)]) hx hb dX4_putBefore_47 hl (by decide) rfl (fun ls hl => ?_)
      refine lv_iload_n hx hb dX4_putBefore_49 rfl (lv_at hl 5 rfl) ?_
      refine lv_iload_n hx hb dX4_putBefore_50 rfl (lv_at hl 2 rfl) ?_
      refine lv_isub hx hb dX4_putBefore_51 ?_
      refine ck_top (y := k - 0) rfl ?_
      refine lv_istore (lv' := [(6, .int (k - 0)), (5, .int (r_parts (g ((0 : Int32).toNatClampNeg)) + r_parts (f ((0 : Int32).toNatClampNeg)))), (4, .int 0), (3, .int 0), (0, .ref r), (1, .ref q), (2, .int k)]) hx hb dX4_putBefore_52 hl (by decide) rfl (fun ls hl => ?_)
      refine lv_aload_n hx hb dX4_putBefore_54 rfl (lv_at hl 4 rfl) ?_
      refine va_get (ci := 3) (v := .int n) (C := RX4) (T := TX4) (N := 3) hx hb hts inG_X4 hown hK hP 0 rfl rfl 1 (by decide) (hts _ tw_1_62) (fun _ h9 => h9) rfl dX4_putBefore_55 ?_
      refine lv_iload hx hb dX4_putBefore_58 (lv_at hl 2 rfl) ?_
      refine lv_isub hx hb dX4_putBefore_60 ?_
      refine ck_top (y := n - 0) rfl ?_
      refine lv_istore (lv' := [(7, .int (n - 0)), (6, .int (k - 0)), (5, .int (r_parts (g ((0 : Int32).toNatClampNeg)) + r_parts (f ((0 : Int32).toNatClampNeg)))), (4, .int 0), (3, .int 0), (0, .ref r), (1, .ref q), (2, .int k)]) hx hb dX4_putBefore_61 hl (by decide) rfl (fun ls hl => ?_)
      refine lv_iload hx hb dX4_putBefore_63 (lv_at hl 1 rfl) ?_
      refine lv_if_lt (tgt := 86) hx hb dX4_putBefore_65 (by decide) (fun c_65 => ?_) (fun c_65 => ?_)
      · refine lv_aload_n hx hb dX4_putBefore_86 rfl (lv_at hl 5 rfl) ?_
        refine lv_iconst (v := 1) hx hb dX4_putBefore_87 (by decide) ?_
        refine va_put (ci := 3) (v := .int 1) (ty := .boolean) (C := RX4) (T := TX4) (N := 3) hx hb hts inG_X4 tyX4 tyX4_ok nmX4 hown hK hP hD hS 0 rfl rfl 2 (by decide) (hts _ tw_1_63) (fun _ h9 => h9) rfl (by decide +kernel) rfl rfl (Nat.le_of_ble_eq_true rfl) dX4_putBefore_88 (fun H locs hP hD hS => ?_)
        have hP : va_P D vwCl ([(r, .inr (3, [.ref rc, .int n, .int 1])), (rc, .inl (cR, 512, .inl f))] ++ po) H := hP
        have hD : va_D _ ([(r, .inr (3, [.ref rc, .int n, .int 1])), (rc, .inl (cR, 512, .inl f))] ++ po) := hD
        exact ck_vret ⟨f, n, 1⟩ hx hb hr hlocks ⟨rfl, (by unfold r_before; rw [if_neg c_8, if_pos c_21]; unfold r_bef; rw [if_pos c_65])⟩ (hP.part [0, 1] rfl) (hK.sub [0] rfl) (hD.part [0, 1] (by decide) rfl) hS (by decide) (by decide) dX4_putBefore_91
      · refine lv_iload hx hb dX4_putBefore_68 (lv_at hl 0 rfl) ?_
        refine lv_if_lt (tgt := 86) hx hb dX4_putBefore_70 (by decide) (fun c_70 => ?_) (fun c_70 => ?_)
        · refine lv_aload_n hx hb dX4_putBefore_86 rfl (lv_at hl 5 rfl) ?_
          refine lv_iconst (v := 1) hx hb dX4_putBefore_87 (by decide) ?_
          refine va_put (ci := 3) (v := .int 1) (ty := .boolean) (C := RX4) (T := TX4) (N := 3) hx hb hts inG_X4 tyX4 tyX4_ok nmX4 hown hK hP hD hS 0 rfl rfl 2 (by decide) (hts _ tw_1_63) (fun _ h9 => h9) rfl (by decide +kernel) rfl rfl (Nat.le_of_ble_eq_true rfl) dX4_putBefore_88 (fun H locs hP hD hS => ?_)
          have hP : va_P D vwCl ([(r, .inr (3, [.ref rc, .int n, .int 1])), (rc, .inl (cR, 512, .inl f))] ++ po) H := hP
          have hD : va_D _ ([(r, .inr (3, [.ref rc, .int n, .int 1])), (rc, .inl (cR, 512, .inl f))] ++ po) := hD
          exact ck_vret ⟨f, n, 1⟩ hx hb hr hlocks ⟨rfl, (by unfold r_before; rw [if_neg c_8, if_pos c_21]; unfold r_bef; rw [if_neg c_65, if_pos c_70])⟩ (hP.part [0, 1] rfl) (hK.sub [0] rfl) (hD.part [0, 1] (by decide) rfl) hS (by decide) (by decide) dX4_putBefore_91
        · refine lv_iconst (v := 1) hx hb dX4_putBefore_73 (by decide) ?_
          refine lv_iload hx hb dX4_putBefore_74 (lv_at hl 1 rfl) ?_
          refine lv_iadd hx hb dX4_putBefore_76 ?_
          refine ck_top (y := 1 + (k - 0)) rfl ?_
          refine lv_iload hx hb dX4_putBefore_77 (lv_at hl 0 rfl) ?_
          refine lv_iadd hx hb dX4_putBefore_79 ?_
          refine ck_top (y := 1 + (k - 0) + (n - 0)) rfl ?_
          refine lv_sipush (v := 240) hx hb dX4_putBefore_80 (by decide) ?_
          refine lv_icmp_le (tgt := 92) hx hb dX4_putBefore_83 (by decide) (fun c_83 => ?_) (fun c_83 => ?_)
          · refine lv_aload_n hx hb dX4_putBefore_92 rfl (lv_at hl 5 rfl) ?_
            refine va_get (ci := 3) (v := .ref rc) (C := RX4) (T := TX4) (N := 3) hx hb hts inG_X4 hown hK hP 0 rfl rfl 0 (by decide) (hts _ tw_1_61) (fun _ h9 => h9) rfl dX4_putBefore_93 ?_
            refine lv_iload hx hb dX4_putBefore_96 (lv_at hl 3 rfl) ?_
            refine lv_aload_n hx hb dX4_putBefore_98 rfl (lv_at hl 5 rfl) ?_
            refine va_get (ci := 3) (v := .ref rc) (C := RX4) (T := TX4) (N := 3) hx hb hts inG_X4 hown hK hP 0 rfl rfl 0 (by decide) (hts _ tw_1_61) (fun _ h9 => h9) rfl dX4_putBefore_99 ?_
            refine lv_iconst (v := 1) hx hb dX4_putBefore_102 (by decide) ?_
            refine lv_iload hx hb dX4_putBefore_103 (lv_at hl 1 rfl) ?_
            refine lv_iadd hx hb dX4_putBefore_105 ?_
            refine ck_top (y := 1 + (k - 0)) rfl ?_
            refine lv_iload hx hb dX4_putBefore_106 (lv_at hl 0 rfl) ?_
            refine va_copyi (ty := .int) hx hb (hml.trans hl.1.symm) hown (hts _ tw_2_140) (hts _ tw_acn) (hts _ tw_acs) (hts _ tw_aci) hK hP hD hS 1 1 0 0 rfl rfl rfl rfl rfl (by decide) (bef_1 (s := 0) (o := 0) (by decide) (by decide) hk hn) c_70 (bef_2 (s := 0) (o := 0) (by decide) (by decide) hk hn) (bef_3 (s := 0) (o := 0) (by decide) (by decide) hk hn c_83) (fun _ _ => rfl) (by decide) (Nat.le_of_ble_eq_true rfl) dX4_putBefore_108 (fun H locs hP hD hS => ?_)
            have hP : va_P D vwCl ([(r, .inr (3, [.ref rc, .int n, .int z])), (rc, .inl (cR, 512, .inl (va_cpy f f ((0 : Int32).toNatClampNeg) ((1 + (k - 0)).toNatClampNeg) ((n - 0).toNatClampNeg))))] ++ po) H := hP
            have hD : va_D _ ([(r, .inr (3, [.ref rc, .int n, .int z])), (rc, .inl (cR, 512, .inl (va_cpy f f ((0 : Int32).toNatClampNeg) ((1 + (k - 0)).toNatClampNeg) ((n - 0).toNatClampNeg))))] ++ po) := hD
            refine lv_aload_n hx hb dX4_putBefore_111 rfl (lv_at hl 6 rfl) ?_
            refine lv_iload_n hx hb dX4_putBefore_112 rfl (lv_at hl 4 rfl) ?_
            refine lv_aload_n hx hb dX4_putBefore_113 rfl (lv_at hl 5 rfl) ?_
            refine va_get (ci := 3) (v := .ref rc) (C := RX4) (T := TX4) (N := 3) hx hb hts inG_X4 hown hK hP 0 rfl rfl 0 (by decide) (hts _ tw_1_61) (fun _ h9 => h9) rfl dX4_putBefore_114 ?_
            refine lv_iconst (v := 1) hx hb dX4_putBefore_117 (by decide) ?_
            refine lv_iload hx hb dX4_putBefore_118 (lv_at hl 1 rfl) ?_
            refine va_copyi (ty := .int) hx hb (hml.trans hl.1.symm) hown (hts _ tw_2_140) (hts _ tw_acn) (hts _ tw_acs) (hts _ tw_aci) hK hP hD hS (j + 2) 1 0 0 hgc rfl rfl rfl rfl (by decide) (by decide) c_65 (bef_4 (s := 0) (o := 0) (by decide) (by decide) hk hn hkN) (bef_6 (s := 0) (o := 0) (by decide) (by decide) hk hn c_83) (fun _ _ => rfl) (by decide) (Nat.le_of_ble_eq_true rfl) dX4_putBefore_120 (fun H locs hP hD hS => ?_)
            have hP : va_P D vwCl ([(r, .inr (3, [.ref rc, .int n, .int z])), (rc, .inl (cR, 512, .inl (va_cpy g (va_cpy f f ((0 : Int32).toNatClampNeg) ((1 + (k - 0)).toNatClampNeg) ((n - 0).toNatClampNeg)) ((0 : Int32).toNatClampNeg) ((1 : Int32).toNatClampNeg) ((k - 0).toNatClampNeg))))] ++ po) H := hP
            have hD : va_D _ ([(r, .inr (3, [.ref rc, .int n, .int z])), (rc, .inl (cR, 512, .inl (va_cpy g (va_cpy f f ((0 : Int32).toNatClampNeg) ((1 + (k - 0)).toNatClampNeg) ((n - 0).toNatClampNeg)) ((0 : Int32).toNatClampNeg) ((1 : Int32).toNatClampNeg) ((k - 0).toNatClampNeg))))] ++ po) := hD
            refine lv_aload_n hx hb dX4_putBefore_123 rfl (lv_at hl 5 rfl) ?_
            refine va_get (ci := 3) (v := .ref rc) (C := RX4) (T := TX4) (N := 3) hx hb hts inG_X4 hown hK hP 0 rfl rfl 0 (by decide) (hts _ tw_1_61) (fun _ h9 => h9) rfl dX4_putBefore_124 ?_
            refine lv_iconst (v := 0) hx hb dX4_putBefore_127 (by decide) ?_
            refine lv_bipush (v := 7) hx hb dX4_putBefore_128 (by decide) ?_
            refine lv_iload hx hb dX4_putBefore_130 (lv_at hl 2 rfl) ?_
            refine ck_runQ (wr := [(r, .inr (3, [.ref rc, .int n, .int z])), (rc, .inl (cR, 512, .inl (va_cpy g (va_cpy f f ((0 : Int32).toNatClampNeg) ((1 + (k - 0)).toNatClampNeg) ((n - 0).toNatClampNeg)) ((0 : Int32).toNatClampNeg) ((1 : Int32).toNatClampNeg) ((k - 0).toNatClampNeg))))]) (va_runS (As := [.int 7, .int (r_parts (g ((0 : Int32).toNatClampNeg)) + r_parts (f ((0 : Int32).toNatClampNeg)))]) (rest := [.int 0, .ref rc]) ⟨hx, hb, hml, hown, hts⟩ (c_of l D H.size 7 (r_parts (g ((0 : Int32).toNatClampNeg)) + r_parts (f ((0 : Int32).toNatClampNeg)))) (cw_S (n := 2) hts tw_2_186 tw_2_60 tw_1_8 tw_2_61 (by decide +kernel) ⟨by decide, by decide⟩) ⟨pre.blind, fun U hU hW => ⟨rfl, pre.of (wc := []) (tysc := []) (tk := []) hP.left hD.left hK hS hA hE hZ [] (by decide) rfl rfl rfl U hU hW⟩⟩ rfl rfl hl.1 rfl (lv_room (Nat.le_of_ble_eq_true rfl)) dX4_putBefore_132 ⟨by decide, by decide⟩) hP hD hK hS hA [] [0, 1] rfl rfl (by decide) (by decide) (fun v u H locs hw hP hD hK9 hS => ?_)
            have hw : v = some (.int ((r_parts (g ((0 : Int32).toNatClampNeg)) + r_parts (f ((0 : Int32).toNatClampNeg))) <<< ((4 : Int32) &&& 31) ||| 7)) := hw
            subst hw
            have hP : va_P D vwCl ([(r, .inr (3, [.ref rc, .int n, .int z])), (rc, .inl (cR, 512, .inl (va_cpy g (va_cpy f f ((0 : Int32).toNatClampNeg) ((1 + (k - 0)).toNatClampNeg) ((n - 0).toNatClampNeg)) ((0 : Int32).toNatClampNeg) ((1 : Int32).toNatClampNeg) ((k - 0).toNatClampNeg))))] ++ po) H := hP
            have hD : va_D _ ([(r, .inr (3, [.ref rc, .int n, .int z])), (rc, .inl (cR, 512, .inl (va_cpy g (va_cpy f f ((0 : Int32).toNatClampNeg) ((1 + (k - 0)).toNatClampNeg) ((n - 0).toNatClampNeg)) ((0 : Int32).toNatClampNeg) ((1 : Int32).toNatClampNeg) ((k - 0).toNatClampNeg))))] ++ po) := hD
            refine W.eq (g2 := F0 m 135 ls [.int ((r_parts (g ((0 : Int32).toNatClampNeg)) + r_parts (f ((0 : Int32).toNatClampNeg))) <<< ((4 : Int32) &&& 31) ||| 7), .int 0, .ref rc]) rfl ?_
            refine va_iast hx hb hK hP hD hS 1 0 rfl rfl (vi (by decide)) dX4_putBefore_135 (fun H locs hP hD hS => ?_)
            have hP : va_P D vwCl ([(r, .inr (3, [.ref rc, .int n, .int z])), (rc, .inl (cR, 512, .inl (upd (va_cpy g (va_cpy f f ((0 : Int32).toNatClampNeg) ((1 + (k - 0)).toNatClampNeg) ((n - 0).toNatClampNeg)) ((0 : Int32).toNatClampNeg) ((1 : Int32).toNatClampNeg) ((k - 0).toNatClampNeg)) ((0 : Int32).toNatClampNeg) ((r_parts (g ((0 : Int32).toNatClampNeg)) + r_parts (f ((0 : Int32).toNatClampNeg))) <<< ((4 : Int32) &&& 31) ||| 7))))] ++ po) H := hP
            have hD : va_D _ ([(r, .inr (3, [.ref rc, .int n, .int z])), (rc, .inl (cR, 512, .inl (upd (va_cpy g (va_cpy f f ((0 : Int32).toNatClampNeg) ((1 + (k - 0)).toNatClampNeg) ((n - 0).toNatClampNeg)) ((0 : Int32).toNatClampNeg) ((1 : Int32).toNatClampNeg) ((k - 0).toNatClampNeg)) ((0 : Int32).toNatClampNeg) ((r_parts (g ((0 : Int32).toNatClampNeg)) + r_parts (f ((0 : Int32).toNatClampNeg))) <<< ((4 : Int32) &&& 31) ||| 7))))] ++ po) := hD
            refine lv_aload_n hx hb dX4_putBefore_136 rfl (lv_at hl 5 rfl) ?_
            refine lv_iconst (v := 1) hx hb dX4_putBefore_137 (by decide) ?_
            refine lv_iload hx hb dX4_putBefore_138 (lv_at hl 1 rfl) ?_
            refine lv_iadd hx hb dX4_putBefore_140 ?_
            refine ck_top (y := 1 + (k - 0)) rfl ?_
            refine lv_iload hx hb dX4_putBefore_141 (lv_at hl 0 rfl) ?_
            refine lv_iadd hx hb dX4_putBefore_143 ?_
            refine ck_top (y := 1 + (k - 0) + (n - 0)) rfl ?_
            refine va_put (ci := 3) (v := .int (1 + (k - 0) + (n - 0))) (ty := .int) (C := RX4) (T := TX4) (N := 3) hx hb hts inG_X4 tyX4 tyX4_ok nmX4 hown hK hP hD hS 0 rfl rfl 1 (by decide) (hts _ tw_1_62) (fun _ h9 => h9) rfl (by decide +kernel) rfl rfl (Nat.le_of_ble_eq_true rfl) dX4_putBefore_144 (fun H locs hP hD hS => ?_)
            have hP : va_P D vwCl ([(r, .inr (3, [.ref rc, .int (1 + (k - 0) + (n - 0)), .int z])), (rc, .inl (cR, 512, .inl (upd (va_cpy g (va_cpy f f ((0 : Int32).toNatClampNeg) ((1 + (k - 0)).toNatClampNeg) ((n - 0).toNatClampNeg)) ((0 : Int32).toNatClampNeg) ((1 : Int32).toNatClampNeg) ((k - 0).toNatClampNeg)) ((0 : Int32).toNatClampNeg) ((r_parts (g ((0 : Int32).toNatClampNeg)) + r_parts (f ((0 : Int32).toNatClampNeg))) <<< ((4 : Int32) &&& 31) ||| 7))))] ++ po) H := hP
            have hD : va_D _ ([(r, .inr (3, [.ref rc, .int (1 + (k - 0) + (n - 0)), .int z])), (rc, .inl (cR, 512, .inl (upd (va_cpy g (va_cpy f f ((0 : Int32).toNatClampNeg) ((1 + (k - 0)).toNatClampNeg) ((n - 0).toNatClampNeg)) ((0 : Int32).toNatClampNeg) ((1 : Int32).toNatClampNeg) ((k - 0).toNatClampNeg)) ((0 : Int32).toNatClampNeg) ((r_parts (g ((0 : Int32).toNatClampNeg)) + r_parts (f ((0 : Int32).toNatClampNeg))) <<< ((4 : Int32) &&& 31) ||| 7))))] ++ po) := hD
            exact ck_vret ⟨upd (va_cpy g (va_cpy f f ((0 : Int32).toNatClampNeg) ((1 + (k - 0)).toNatClampNeg) ((n - 0).toNatClampNeg)) ((0 : Int32).toNatClampNeg) ((1 : Int32).toNatClampNeg) ((k - 0).toNatClampNeg)) ((0 : Int32).toNatClampNeg) ((r_parts (g ((0 : Int32).toNatClampNeg)) + r_parts (f ((0 : Int32).toNatClampNeg))) <<< ((4 : Int32) &&& 31) ||| 7), 1 + (k - 0) + (n - 0), z⟩ hx hb hr hlocks ⟨rfl, (by unfold r_before; rw [if_neg c_8, if_pos c_21]; unfold r_bef; rw [if_neg c_65, if_neg c_70, if_pos c_83])⟩ (hP.part [0, 1] rfl) (hK.sub [0] rfl) (hD.part [0, 1] (by decide) rfl) hS (by decide) (by decide) dX4_putBefore_147
          · refine lv_aload_n hx hb dX4_putBefore_86 rfl (lv_at hl 5 rfl) ?_
            refine lv_iconst (v := 1) hx hb dX4_putBefore_87 (by decide) ?_
            refine va_put (ci := 3) (v := .int 1) (ty := .boolean) (C := RX4) (T := TX4) (N := 3) hx hb hts inG_X4 tyX4 tyX4_ok nmX4 hown hK hP hD hS 0 rfl rfl 2 (by decide) (hts _ tw_1_63) (fun _ h9 => h9) rfl (by decide +kernel) rfl rfl (Nat.le_of_ble_eq_true rfl) dX4_putBefore_88 (fun H locs hP hD hS => ?_)
            have hP : va_P D vwCl ([(r, .inr (3, [.ref rc, .int n, .int 1])), (rc, .inl (cR, 512, .inl f))] ++ po) H := hP
            have hD : va_D _ ([(r, .inr (3, [.ref rc, .int n, .int 1])), (rc, .inl (cR, 512, .inl f))] ++ po) := hD
            exact ck_vret ⟨f, n, 1⟩ hx hb hr hlocks ⟨rfl, (by unfold r_before; rw [if_neg c_8, if_pos c_21]; unfold r_bef; rw [if_neg c_65, if_neg c_70, if_neg c_83])⟩ (hP.part [0, 1] rfl) (hK.sub [0] rfl) (hD.part [0, 1] (by decide) rfl) hS (by decide) (by decide) dX4_putBefore_91
    · refine lv_iconst (v := 1) hx hb dX4_putBefore_24 (by decide) ?_
      refine lv_goto (tgt := 29) hx hb dX4_putBefore_25 (by decide) ?_
      refine lv_istore (lv' := [(4, .int 1), (3, .int 0), (0, .ref r), (1, .ref q), (2, .int k)]) hx hb dX4_putBefore_29 hl (by decide) rfl (fun ls hl => ?_)
      refine lv_aload_n hx hb dX4_putBefore_31 rfl (lv_at hl 3 rfl) ?_
      refine lv_iconst (v := 0) hx hb dX4_putBefore_32 (by decide) ?_
      refine va_iald hx hb hK hP (j + 2) 0 hgc rfl (g_in0 hN.1) dX4_putBefore_33 ?_
      refine ck_top (y := g ((0 : Int32).toNatClampNeg)) rfl ?_
      refine ck_runQ (wr := [(r, .inr (3, [.ref rc, .int n, .int z])), (rc, .inl (cR, 512, .inl f))]) (va_runS (As := [.int (g ((0 : Int32).toNatClampNeg))]) (rest := []) ⟨hx, hb, hml, hown, hts⟩ (c_parts l D H.size (g ((0 : Int32).toNatClampNeg))) (cw_S (n := 1) hts tw_2_182 tw_2_183 tw_1_3 tw_2_184 (by decide +kernel) ⟨by decide, by decide⟩) ⟨pre.blind, fun U hU hW => ⟨rfl, pre.of (wc := []) (tysc := []) (tk := []) hP.left hD.left hK hS hA hE hZ [] (by decide) rfl rfl rfl U hU hW⟩⟩ rfl rfl hl.1 rfl (lv_room (Nat.le_of_ble_eq_true rfl)) dX4_putBefore_34 ⟨by decide, by decide⟩) hP hD hK hS hA [] [0, 1] rfl rfl (by decide) (by decide) (fun v u H locs hw hP hD hK9 hS => ?_)
      have hw : v = some (.int (r_parts (g ((0 : Int32).toNatClampNeg)))) := hw
      subst hw
      have hP : va_P D vwCl ([(r, .inr (3, [.ref rc, .int n, .int z])), (rc, .inl (cR, 512, .inl f))] ++ po) H := hP
      have hD : va_D _ ([(r, .inr (3, [.ref rc, .int n, .int z])), (rc, .inl (cR, 512, .inl f))] ++ po) := hD
      refine W.eq (g2 := F0 m 37 ls [.int (r_parts (g ((0 : Int32).toNatClampNeg)))]) rfl ?_
      refine lv_aload_n hx hb dX4_putBefore_37 rfl (lv_at hl 2 rfl) ?_
      refine va_get (ci := 3) (v := .ref rc) (C := RX4) (T := TX4) (N := 3) hx hb hts inG_X4 hown hK hP 0 rfl rfl 0 (by decide) (hts _ tw_1_61) (fun _ h9 => h9) rfl dX4_putBefore_38 ?_
      refine lv_iconst (v := 0) hx hb dX4_putBefore_41 (by decide) ?_
      refine va_iald hx hb hK hP 1 0 rfl rfl (vi (by decide)) dX4_putBefore_42 ?_
      refine ck_top (y := f ((0 : Int32).toNatClampNeg)) rfl ?_
      refine ck_runQ (wr := [(r, .inr (3, [.ref rc, .int n, .int z])), (rc, .inl (cR, 512, .inl f))]) (va_runS (As := [.int (f ((0 : Int32).toNatClampNeg))]) (rest := [.int (r_parts (g ((0 : Int32).toNatClampNeg)))]) ⟨hx, hb, hml, hown, hts⟩ (c_parts l D H.size (f ((0 : Int32).toNatClampNeg))) (cw_S (n := 1) hts tw_2_182 tw_2_183 tw_1_3 tw_2_184 (by decide +kernel) ⟨by decide, by decide⟩) ⟨pre.blind, fun U hU hW => ⟨rfl, pre.of (wc := []) (tysc := []) (tk := []) hP.left hD.left hK hS hA hE hZ [] (by decide) rfl rfl rfl U hU hW⟩⟩ rfl rfl hl.1 rfl (lv_room (Nat.le_of_ble_eq_true rfl)) dX4_putBefore_43 ⟨by decide, by decide⟩) hP hD hK hS hA [] [0, 1] rfl rfl (by decide) (by decide) (fun v u H locs hw hP hD hK9 hS => ?_)
      have hw : v = some (.int (r_parts (f ((0 : Int32).toNatClampNeg)))) := hw
      subst hw
      have hP : va_P D vwCl ([(r, .inr (3, [.ref rc, .int n, .int z])), (rc, .inl (cR, 512, .inl f))] ++ po) H := hP
      have hD : va_D _ ([(r, .inr (3, [.ref rc, .int n, .int z])), (rc, .inl (cR, 512, .inl f))] ++ po) := hD
      refine W.eq (g2 := F0 m 46 ls [.int (r_parts (f ((0 : Int32).toNatClampNeg))), .int (r_parts (g ((0 : Int32).toNatClampNeg)))]) rfl ?_
      refine lv_iadd hx hb dX4_putBefore_46 ?_
      refine ck_top (y := r_parts (g ((0 : Int32).toNatClampNeg)) + r_parts (f ((0 : Int32).toNatClampNeg))) rfl ?_
      refine lv_istore (lv' := [(5, .int (r_parts (g ((0 : Int32).toNatClampNeg)) + r_parts (f ((0 : Int32).toNatClampNeg)))), (4, .int 1), (3, .int 0), (0, .ref r), (1, .ref q), (2, .int k)]) hx hb dX4_putBefore_47 hl (by decide) rfl (fun ls hl => ?_)
      refine lv_iload_n hx hb dX4_putBefore_49 rfl (lv_at hl 5 rfl) ?_
      refine lv_iload_n hx hb dX4_putBefore_50 rfl (lv_at hl 2 rfl) ?_
      refine lv_isub hx hb dX4_putBefore_51 ?_
      refine ck_top (y := k - 0) rfl ?_
      refine lv_istore (lv' := [(6, .int (k - 0)), (5, .int (r_parts (g ((0 : Int32).toNatClampNeg)) + r_parts (f ((0 : Int32).toNatClampNeg)))), (4, .int 1), (3, .int 0), (0, .ref r), (1, .ref q), (2, .int k)]) hx hb dX4_putBefore_52 hl (by decide) rfl (fun ls hl => ?_)
      refine lv_aload_n hx hb dX4_putBefore_54 rfl (lv_at hl 4 rfl) ?_
      refine va_get (ci := 3) (v := .int n) (C := RX4) (T := TX4) (N := 3) hx hb hts inG_X4 hown hK hP 0 rfl rfl 1 (by decide) (hts _ tw_1_62) (fun _ h9 => h9) rfl dX4_putBefore_55 ?_
      refine lv_iload hx hb dX4_putBefore_58 (lv_at hl 2 rfl) ?_
      refine lv_isub hx hb dX4_putBefore_60 ?_
      refine ck_top (y := n - 1) rfl ?_
      refine lv_istore (lv' := [(7, .int (n - 1)), (6, .int (k - 0)), (5, .int (r_parts (g ((0 : Int32).toNatClampNeg)) + r_parts (f ((0 : Int32).toNatClampNeg)))), (4, .int 1), (3, .int 0), (0, .ref r), (1, .ref q), (2, .int k)]) hx hb dX4_putBefore_61 hl (by decide) rfl (fun ls hl => ?_)
      refine lv_iload hx hb dX4_putBefore_63 (lv_at hl 1 rfl) ?_
      refine lv_if_lt (tgt := 86) hx hb dX4_putBefore_65 (by decide) (fun c_65 => ?_) (fun c_65 => ?_)
      · refine lv_aload_n hx hb dX4_putBefore_86 rfl (lv_at hl 5 rfl) ?_
        refine lv_iconst (v := 1) hx hb dX4_putBefore_87 (by decide) ?_
        refine va_put (ci := 3) (v := .int 1) (ty := .boolean) (C := RX4) (T := TX4) (N := 3) hx hb hts inG_X4 tyX4 tyX4_ok nmX4 hown hK hP hD hS 0 rfl rfl 2 (by decide) (hts _ tw_1_63) (fun _ h9 => h9) rfl (by decide +kernel) rfl rfl (Nat.le_of_ble_eq_true rfl) dX4_putBefore_88 (fun H locs hP hD hS => ?_)
        have hP : va_P D vwCl ([(r, .inr (3, [.ref rc, .int n, .int 1])), (rc, .inl (cR, 512, .inl f))] ++ po) H := hP
        have hD : va_D _ ([(r, .inr (3, [.ref rc, .int n, .int 1])), (rc, .inl (cR, 512, .inl f))] ++ po) := hD
        exact ck_vret ⟨f, n, 1⟩ hx hb hr hlocks ⟨rfl, (by unfold r_before; rw [if_neg c_8, if_neg c_21]; unfold r_bef; rw [if_pos c_65])⟩ (hP.part [0, 1] rfl) (hK.sub [0] rfl) (hD.part [0, 1] (by decide) rfl) hS (by decide) (by decide) dX4_putBefore_91
      · refine lv_iload hx hb dX4_putBefore_68 (lv_at hl 0 rfl) ?_
        refine lv_if_lt (tgt := 86) hx hb dX4_putBefore_70 (by decide) (fun c_70 => ?_) (fun c_70 => ?_)
        · refine lv_aload_n hx hb dX4_putBefore_86 rfl (lv_at hl 5 rfl) ?_
          refine lv_iconst (v := 1) hx hb dX4_putBefore_87 (by decide) ?_
          refine va_put (ci := 3) (v := .int 1) (ty := .boolean) (C := RX4) (T := TX4) (N := 3) hx hb hts inG_X4 tyX4 tyX4_ok nmX4 hown hK hP hD hS 0 rfl rfl 2 (by decide) (hts _ tw_1_63) (fun _ h9 => h9) rfl (by decide +kernel) rfl rfl (Nat.le_of_ble_eq_true rfl) dX4_putBefore_88 (fun H locs hP hD hS => ?_)
          have hP : va_P D vwCl ([(r, .inr (3, [.ref rc, .int n, .int 1])), (rc, .inl (cR, 512, .inl f))] ++ po) H := hP
          have hD : va_D _ ([(r, .inr (3, [.ref rc, .int n, .int 1])), (rc, .inl (cR, 512, .inl f))] ++ po) := hD
          exact ck_vret ⟨f, n, 1⟩ hx hb hr hlocks ⟨rfl, (by unfold r_before; rw [if_neg c_8, if_neg c_21]; unfold r_bef; rw [if_neg c_65, if_pos c_70])⟩ (hP.part [0, 1] rfl) (hK.sub [0] rfl) (hD.part [0, 1] (by decide) rfl) hS (by decide) (by decide) dX4_putBefore_91
        · refine lv_iconst (v := 1) hx hb dX4_putBefore_73 (by decide) ?_
          refine lv_iload hx hb dX4_putBefore_74 (lv_at hl 1 rfl) ?_
          refine lv_iadd hx hb dX4_putBefore_76 ?_
          refine ck_top (y := 1 + (k - 0)) rfl ?_
          refine lv_iload hx hb dX4_putBefore_77 (lv_at hl 0 rfl) ?_
          refine lv_iadd hx hb dX4_putBefore_79 ?_
          refine ck_top (y := 1 + (k - 0) + (n - 1)) rfl ?_
          refine lv_sipush (v := 240) hx hb dX4_putBefore_80 (by decide) ?_
          refine lv_icmp_le (tgt := 92) hx hb dX4_putBefore_83 (by decide) (fun c_83 => ?_) (fun c_83 => ?_)
          · refine lv_aload_n hx hb dX4_putBefore_92 rfl (lv_at hl 5 rfl) ?_
            refine va_get (ci := 3) (v := .ref rc) (C := RX4) (T := TX4) (N := 3) hx hb hts inG_X4 hown hK hP 0 rfl rfl 0 (by decide) (hts _ tw_1_61) (fun _ h9 => h9) rfl dX4_putBefore_93 ?_
            refine lv_iload hx hb dX4_putBefore_96 (lv_at hl 3 rfl) ?_
            refine lv_aload_n hx hb dX4_putBefore_98 rfl (lv_at hl 5 rfl) ?_
            refine va_get (ci := 3) (v := .ref rc) (C := RX4) (T := TX4) (N := 3) hx hb hts inG_X4 hown hK hP 0 rfl rfl 0 (by decide) (hts _ tw_1_61) (fun _ h9 => h9) rfl dX4_putBefore_99 ?_
            refine lv_iconst (v := 1) hx hb dX4_putBefore_102 (by decide) ?_
            refine lv_iload hx hb dX4_putBefore_103 (lv_at hl 1 rfl) ?_
            refine lv_iadd hx hb dX4_putBefore_105 ?_
            refine ck_top (y := 1 + (k - 0)) rfl ?_
            refine lv_iload hx hb dX4_putBefore_106 (lv_at hl 0 rfl) ?_
            refine va_copyi (ty := .int) hx hb (hml.trans hl.1.symm) hown (hts _ tw_2_140) (hts _ tw_acn) (hts _ tw_acs) (hts _ tw_aci) hK hP hD hS 1 1 0 0 rfl rfl rfl rfl rfl (by decide) (bef_1 (s := 0) (o := 1) (by decide) (by decide) hk hn) c_70 (bef_2 (s := 0) (o := 1) (by decide) (by decide) hk hn) (bef_3 (s := 0) (o := 1) (by decide) (by decide) hk hn c_83) (fun _ _ => rfl) (by decide) (Nat.le_of_ble_eq_true rfl) dX4_putBefore_108 (fun H locs hP hD hS => ?_)
            have hP : va_P D vwCl ([(r, .inr (3, [.ref rc, .int n, .int z])), (rc, .inl (cR, 512, .inl (va_cpy f f ((1 : Int32).toNatClampNeg) ((1 + (k - 0)).toNatClampNeg) ((n - 1).toNatClampNeg))))] ++ po) H := hP
            have hD : va_D _ ([(r, .inr (3, [.ref rc, .int n, .int z])), (rc, .inl (cR, 512, .inl (va_cpy f f ((1 : Int32).toNatClampNeg) ((1 + (k - 0)).toNatClampNeg) ((n - 1).toNatClampNeg))))] ++ po) := hD
            refine lv_aload_n hx hb dX4_putBefore_111 rfl (lv_at hl 6 rfl) ?_
            refine lv_iload_n hx hb dX4_putBefore_112 rfl (lv_at hl 4 rfl) ?_
            refine lv_aload_n hx hb dX4_putBefore_113 rfl (lv_at hl 5 rfl) ?_
            refine va_get (ci := 3) (v := .ref rc) (C := RX4) (T := TX4) (N := 3) hx hb hts inG_X4 hown hK hP 0 rfl rfl 0 (by decide) (hts _ tw_1_61) (fun _ h9 => h9) rfl dX4_putBefore_114 ?_
            refine lv_iconst (v := 1) hx hb dX4_putBefore_117 (by decide) ?_
            refine lv_iload hx hb dX4_putBefore_118 (lv_at hl 1 rfl) ?_
            refine va_copyi (ty := .int) hx hb (hml.trans hl.1.symm) hown (hts _ tw_2_140) (hts _ tw_acn) (hts _ tw_acs) (hts _ tw_aci) hK hP hD hS (j + 2) 1 0 0 hgc rfl rfl rfl rfl (by decide) (by decide) c_65 (bef_4 (s := 0) (o := 1) (by decide) (by decide) hk hn hkN) (bef_6 (s := 0) (o := 1) (by decide) (by decide) hk hn c_83) (fun _ _ => rfl) (by decide) (Nat.le_of_ble_eq_true rfl) dX4_putBefore_120 (fun H locs hP hD hS => ?_)
            have hP : va_P D vwCl ([(r, .inr (3, [.ref rc, .int n, .int z])), (rc, .inl (cR, 512, .inl (va_cpy g (va_cpy f f ((1 : Int32).toNatClampNeg) ((1 + (k - 0)).toNatClampNeg) ((n - 1).toNatClampNeg)) ((0 : Int32).toNatClampNeg) ((1 : Int32).toNatClampNeg) ((k - 0).toNatClampNeg))))] ++ po) H := hP
            have hD : va_D _ ([(r, .inr (3, [.ref rc, .int n, .int z])), (rc, .inl (cR, 512, .inl (va_cpy g (va_cpy f f ((1 : Int32).toNatClampNeg) ((1 + (k - 0)).toNatClampNeg) ((n - 1).toNatClampNeg)) ((0 : Int32).toNatClampNeg) ((1 : Int32).toNatClampNeg) ((k - 0).toNatClampNeg))))] ++ po) := hD
            refine lv_aload_n hx hb dX4_putBefore_123 rfl (lv_at hl 5 rfl) ?_
            refine va_get (ci := 3) (v := .ref rc) (C := RX4) (T := TX4) (N := 3) hx hb hts inG_X4 hown hK hP 0 rfl rfl 0 (by decide) (hts _ tw_1_61) (fun _ h9 => h9) rfl dX4_putBefore_124 ?_
            refine lv_iconst (v := 0) hx hb dX4_putBefore_127 (by decide) ?_
            refine lv_bipush (v := 7) hx hb dX4_putBefore_128 (by decide) ?_
            refine lv_iload hx hb dX4_putBefore_130 (lv_at hl 2 rfl) ?_
            refine ck_runQ (wr := [(r, .inr (3, [.ref rc, .int n, .int z])), (rc, .inl (cR, 512, .inl (va_cpy g (va_cpy f f ((1 : Int32).toNatClampNeg) ((1 + (k - 0)).toNatClampNeg) ((n - 1).toNatClampNeg)) ((0 : Int32).toNatClampNeg) ((1 : Int32).toNatClampNeg) ((k - 0).toNatClampNeg))))]) (va_runS (As := [.int 7, .int (r_parts (g ((0 : Int32).toNatClampNeg)) + r_parts (f ((0 : Int32).toNatClampNeg)))]) (rest := [.int 0, .ref rc]) ⟨hx, hb, hml, hown, hts⟩ (c_of l D H.size 7 (r_parts (g ((0 : Int32).toNatClampNeg)) + r_parts (f ((0 : Int32).toNatClampNeg)))) (cw_S (n := 2) hts tw_2_186 tw_2_60 tw_1_8 tw_2_61 (by decide +kernel) ⟨by decide, by decide⟩) ⟨pre.blind, fun U hU hW => ⟨rfl, pre.of (wc := []) (tysc := []) (tk := []) hP.left hD.left hK hS hA hE hZ [] (by decide) rfl rfl rfl U hU hW⟩⟩ rfl rfl hl.1 rfl (lv_room (Nat.le_of_ble_eq_true rfl)) dX4_putBefore_132 ⟨by decide, by decide⟩) hP hD hK hS hA [] [0, 1] rfl rfl (by decide) (by decide) (fun v u H locs hw hP hD hK9 hS => ?_)
            have hw : v = some (.int ((r_parts (g ((0 : Int32).toNatClampNeg)) + r_parts (f ((0 : Int32).toNatClampNeg))) <<< ((4 : Int32) &&& 31) ||| 7)) := hw
            subst hw
            have hP : va_P D vwCl ([(r, .inr (3, [.ref rc, .int n, .int z])), (rc, .inl (cR, 512, .inl (va_cpy g (va_cpy f f ((1 : Int32).toNatClampNeg) ((1 + (k - 0)).toNatClampNeg) ((n - 1).toNatClampNeg)) ((0 : Int32).toNatClampNeg) ((1 : Int32).toNatClampNeg) ((k - 0).toNatClampNeg))))] ++ po) H := hP
            have hD : va_D _ ([(r, .inr (3, [.ref rc, .int n, .int z])), (rc, .inl (cR, 512, .inl (va_cpy g (va_cpy f f ((1 : Int32).toNatClampNeg) ((1 + (k - 0)).toNatClampNeg) ((n - 1).toNatClampNeg)) ((0 : Int32).toNatClampNeg) ((1 : Int32).toNatClampNeg) ((k - 0).toNatClampNeg))))] ++ po) := hD
            refine W.eq (g2 := F0 m 135 ls [.int ((r_parts (g ((0 : Int32).toNatClampNeg)) + r_parts (f ((0 : Int32).toNatClampNeg))) <<< ((4 : Int32) &&& 31) ||| 7), .int 0, .ref rc]) rfl ?_
            refine va_iast hx hb hK hP hD hS 1 0 rfl rfl (vi (by decide)) dX4_putBefore_135 (fun H locs hP hD hS => ?_)
            have hP : va_P D vwCl ([(r, .inr (3, [.ref rc, .int n, .int z])), (rc, .inl (cR, 512, .inl (upd (va_cpy g (va_cpy f f ((1 : Int32).toNatClampNeg) ((1 + (k - 0)).toNatClampNeg) ((n - 1).toNatClampNeg)) ((0 : Int32).toNatClampNeg) ((1 : Int32).toNatClampNeg) ((k - 0).toNatClampNeg)) ((0 : Int32).toNatClampNeg) ((r_parts (g ((0 : Int32).toNatClampNeg)) + r_parts (f ((0 : Int32).toNatClampNeg))) <<< ((4 : Int32) &&& 31) ||| 7))))] ++ po) H := hP
            have hD : va_D _ ([(r, .inr (3, [.ref rc, .int n, .int z])), (rc, .inl (cR, 512, .inl (upd (va_cpy g (va_cpy f f ((1 : Int32).toNatClampNeg) ((1 + (k - 0)).toNatClampNeg) ((n - 1).toNatClampNeg)) ((0 : Int32).toNatClampNeg) ((1 : Int32).toNatClampNeg) ((k - 0).toNatClampNeg)) ((0 : Int32).toNatClampNeg) ((r_parts (g ((0 : Int32).toNatClampNeg)) + r_parts (f ((0 : Int32).toNatClampNeg))) <<< ((4 : Int32) &&& 31) ||| 7))))] ++ po) := hD
            refine lv_aload_n hx hb dX4_putBefore_136 rfl (lv_at hl 5 rfl) ?_
            refine lv_iconst (v := 1) hx hb dX4_putBefore_137 (by decide) ?_
            refine lv_iload hx hb dX4_putBefore_138 (lv_at hl 1 rfl) ?_
            refine lv_iadd hx hb dX4_putBefore_140 ?_
            refine ck_top (y := 1 + (k - 0)) rfl ?_
            refine lv_iload hx hb dX4_putBefore_141 (lv_at hl 0 rfl) ?_
            refine lv_iadd hx hb dX4_putBefore_143 ?_
            refine ck_top (y := 1 + (k - 0) + (n - 1)) rfl ?_
            refine va_put (ci := 3) (v := .int (1 + (k - 0) + (n - 1))) (ty := .int) (C := RX4) (T := TX4) (N := 3) hx hb hts inG_X4 tyX4 tyX4_ok nmX4 hown hK hP hD hS 0 rfl rfl 1 (by decide) (hts _ tw_1_62) (fun _ h9 => h9) rfl (by decide +kernel) rfl rfl (Nat.le_of_ble_eq_true rfl) dX4_putBefore_144 (fun H locs hP hD hS => ?_)
            have hP : va_P D vwCl ([(r, .inr (3, [.ref rc, .int (1 + (k - 0) + (n - 1)), .int z])), (rc, .inl (cR, 512, .inl (upd (va_cpy g (va_cpy f f ((1 : Int32).toNatClampNeg) ((1 + (k - 0)).toNatClampNeg) ((n - 1).toNatClampNeg)) ((0 : Int32).toNatClampNeg) ((1 : Int32).toNatClampNeg) ((k - 0).toNatClampNeg)) ((0 : Int32).toNatClampNeg) ((r_parts (g ((0 : Int32).toNatClampNeg)) + r_parts (f ((0 : Int32).toNatClampNeg))) <<< ((4 : Int32) &&& 31) ||| 7))))] ++ po) H := hP
            have hD : va_D _ ([(r, .inr (3, [.ref rc, .int (1 + (k - 0) + (n - 1)), .int z])), (rc, .inl (cR, 512, .inl (upd (va_cpy g (va_cpy f f ((1 : Int32).toNatClampNeg) ((1 + (k - 0)).toNatClampNeg) ((n - 1).toNatClampNeg)) ((0 : Int32).toNatClampNeg) ((1 : Int32).toNatClampNeg) ((k - 0).toNatClampNeg)) ((0 : Int32).toNatClampNeg) ((r_parts (g ((0 : Int32).toNatClampNeg)) + r_parts (f ((0 : Int32).toNatClampNeg))) <<< ((4 : Int32) &&& 31) ||| 7))))] ++ po) := hD
            exact ck_vret ⟨upd (va_cpy g (va_cpy f f ((1 : Int32).toNatClampNeg) ((1 + (k - 0)).toNatClampNeg) ((n - 1).toNatClampNeg)) ((0 : Int32).toNatClampNeg) ((1 : Int32).toNatClampNeg) ((k - 0).toNatClampNeg)) ((0 : Int32).toNatClampNeg) ((r_parts (g ((0 : Int32).toNatClampNeg)) + r_parts (f ((0 : Int32).toNatClampNeg))) <<< ((4 : Int32) &&& 31) ||| 7), 1 + (k - 0) + (n - 1), z⟩ hx hb hr hlocks ⟨rfl, (by unfold r_before; rw [if_neg c_8, if_neg c_21]; unfold r_bef; rw [if_neg c_65, if_neg c_70, if_pos c_83])⟩ (hP.part [0, 1] rfl) (hK.sub [0] rfl) (hD.part [0, 1] (by decide) rfl) hS (by decide) (by decide) dX4_putBefore_147
          · refine lv_aload_n hx hb dX4_putBefore_86 rfl (lv_at hl 5 rfl) ?_
            refine lv_iconst (v := 1) hx hb dX4_putBefore_87 (by decide) ?_
            refine va_put (ci := 3) (v := .int 1) (ty := .boolean) (C := RX4) (T := TX4) (N := 3) hx hb hts inG_X4 tyX4 tyX4_ok nmX4 hown hK hP hD hS 0 rfl rfl 2 (by decide) (hts _ tw_1_63) (fun _ h9 => h9) rfl (by decide +kernel) rfl rfl (Nat.le_of_ble_eq_true rfl) dX4_putBefore_88 (fun H locs hP hD hS => ?_)
            have hP : va_P D vwCl ([(r, .inr (3, [.ref rc, .int n, .int 1])), (rc, .inl (cR, 512, .inl f))] ++ po) H := hP
            have hD : va_D _ ([(r, .inr (3, [.ref rc, .int n, .int 1])), (rc, .inl (cR, 512, .inl f))] ++ po) := hD
            exact ck_vret ⟨f, n, 1⟩ hx hb hr hlocks ⟨rfl, (by unfold r_before; rw [if_neg c_8, if_neg c_21]; unfold r_bef; rw [if_neg c_65, if_neg c_70, if_neg c_83])⟩ (hP.part [0, 1] rfl) (hK.sub [0] rfl) (hD.part [0, 1] (by decide) rfl) hS (by decide) (by decide) dX4_putBefore_91
  · refine lv_iconst (v := 1) hx hb dX4_putBefore_11 (by decide) ?_
    refine lv_goto (tgt := 16) hx hb dX4_putBefore_12 (by decide) ?_
    refine lv_istore_n (lv' := [(3, .int 1), (0, .ref r), (1, .ref q), (2, .int k)]) hx hb dX4_putBefore_16 rfl hl (by decide) rfl (fun ls hl => ?_)
    refine lv_aload_n hx hb dX4_putBefore_17 rfl (lv_at hl 1 rfl) ?_
    refine ck_runQ (wr := []) (va_runV (C := RX4) (As := []) (rest := []) ⟨hx, hb, hml, hown, hts⟩ (c_isAnd l D H.size r rc cR f n z) (cw_V (n := 0) hts tw_2_178 tw_2_180 tw_s20 tw_1_3 tw_2_181 (by decide +kernel) ⟨by decide, by decide⟩) ⟨pre.blind, va_recv (q := (RX4, TX4, 3)) hK hP (ci := 3) (q0 := 0) rfl rfl, fun U hU hW => ⟨rfl, pre.of (wc := [(r, .inr (3, [.ref rc, .int n, .int z])), (rc, .inl (cR, 512, .inl f))]) (tysc := [(cR, .int)]) (tk := [0]) hP.left hD.left hK hS hA hE hZ [0, 1] (by decide) rfl rfl rfl U hU hW⟩⟩ rfl rfl hl.1 rfl (lv_room (Nat.le_of_ble_eq_true rfl)) dX4_putBefore_18 ⟨by decide, by decide⟩) hP hD hK hS hA [0, 1] [] rfl rfl (by decide) (by decide) (fun v u H locs hw hP hD hK9 hS => ?_)
    have hw : v = some (.int (r_isAnd f)) := hw
    subst hw
    have hP : va_P D vwCl ([(r, .inr (3, [.ref rc, .int n, .int z])), (rc, .inl (cR, 512, .inl f))] ++ po) H := hP
    have hD : va_D _ ([(r, .inr (3, [.ref rc, .int n, .int z])), (rc, .inl (cR, 512, .inl f))] ++ po) := hD
    refine W.eq (g2 := F0 m 21 ls [.int (r_isAnd f)]) rfl ?_
    refine lv_if_eq (tgt := 28) hx hb dX4_putBefore_21 (by decide) (fun c_21 => ?_) (fun c_21 => ?_)
    · refine lv_iconst (v := 0) hx hb dX4_putBefore_28 (by decide) ?_
      refine lv_istore (lv' := [(4, .int 0), (3, .int 1), (0, .ref r), (1, .ref q), (2, .int k)]) hx hb dX4_putBefore_29 hl (by decide) rfl (fun ls hl => ?_)
      refine lv_aload_n hx hb dX4_putBefore_31 rfl (lv_at hl 3 rfl) ?_
      refine lv_iconst (v := 0) hx hb dX4_putBefore_32 (by decide) ?_
      refine va_iald hx hb hK hP (j + 2) 0 hgc rfl (g_in0 hN.1) dX4_putBefore_33 ?_
      refine ck_top (y := g ((0 : Int32).toNatClampNeg)) rfl ?_
      refine ck_runQ (wr := [(r, .inr (3, [.ref rc, .int n, .int z])), (rc, .inl (cR, 512, .inl f))]) (va_runS (As := [.int (g ((0 : Int32).toNatClampNeg))]) (rest := []) ⟨hx, hb, hml, hown, hts⟩ (c_parts l D H.size (g ((0 : Int32).toNatClampNeg))) (cw_S (n := 1) hts tw_2_182 tw_2_183 tw_1_3 tw_2_184 (by decide +kernel) ⟨by decide, by decide⟩) ⟨pre.blind, fun U hU hW => ⟨rfl, pre.of (wc := []) (tysc := []) (tk := []) hP.left hD.left hK hS hA hE hZ [] (by decide) rfl rfl rfl U hU hW⟩⟩ rfl rfl hl.1 rfl (lv_room (Nat.le_of_ble_eq_true rfl)) dX4_putBefore_34 ⟨by decide, by decide⟩) hP hD hK hS hA [] [0, 1] rfl rfl (by decide) (by decide) (fun v u H locs hw hP hD hK9 hS => ?_)
      have hw : v = some (.int (r_parts (g ((0 : Int32).toNatClampNeg)))) := hw
      subst hw
      have hP : va_P D vwCl ([(r, .inr (3, [.ref rc, .int n, .int z])), (rc, .inl (cR, 512, .inl f))] ++ po) H := hP
      have hD : va_D _ ([(r, .inr (3, [.ref rc, .int n, .int z])), (rc, .inl (cR, 512, .inl f))] ++ po) := hD
      refine W.eq (g2 := F0 m 37 ls [.int (r_parts (g ((0 : Int32).toNatClampNeg)))]) rfl ?_
      refine lv_aload_n hx hb dX4_putBefore_37 rfl (lv_at hl 2 rfl) ?_
      refine va_get (ci := 3) (v := .ref rc) (C := RX4) (T := TX4) (N := 3) hx hb hts inG_X4 hown hK hP 0 rfl rfl 0 (by decide) (hts _ tw_1_61) (fun _ h9 => h9) rfl dX4_putBefore_38 ?_
      refine lv_iconst (v := 0) hx hb dX4_putBefore_41 (by decide) ?_
      refine va_iald hx hb hK hP 1 0 rfl rfl (vi (by decide)) dX4_putBefore_42 ?_
      refine ck_top (y := f ((0 : Int32).toNatClampNeg)) rfl ?_
      refine ck_runQ (wr := [(r, .inr (3, [.ref rc, .int n, .int z])), (rc, .inl (cR, 512, .inl f))]) (va_runS (As := [.int (f ((0 : Int32).toNatClampNeg))]) (rest := [.int (r_parts (g ((0 : Int32).toNatClampNeg)))]) ⟨hx, hb, hml, hown, hts⟩ (c_parts l D H.size (f ((0 : Int32).toNatClampNeg))) (cw_S (n := 1) hts tw_2_182 tw_2_183 tw_1_3 tw_2_184 (by decide +kernel) ⟨by decide, by decide⟩) ⟨pre.blind, fun U hU hW => ⟨rfl, pre.of (wc := []) (tysc := []) (tk := []) hP.left hD.left hK hS hA hE hZ [] (by decide) rfl rfl rfl U hU hW⟩⟩ rfl rfl hl.1 rfl (lv_room (Nat.le_of_ble_eq_true rfl)) dX4_putBefore_43 ⟨by decide, by decide⟩) hP hD hK hS hA [] [0, 1] rfl rfl (by decide) (by decide) (fun v u H locs hw hP hD hK9 hS => ?_)
      have hw : v = some (.int (r_parts (f ((0 : Int32).toNatClampNeg)))) := hw
      subst hw
      have hP : va_P D vwCl ([(r, .inr (3, [.ref rc, .int n, .int z])), (rc, .inl (cR, 512, .inl f))] ++ po) H := hP
      have hD : va_D _ ([(r, .inr (3, [.ref rc, .int n, .int z])), (rc, .inl (cR, 512, .inl f))] ++ po) := hD
      refine W.eq (g2 := F0 m 46 ls [.int (r_parts (f ((0 : Int32).toNatClampNeg))), .int (r_parts (g ((0 : Int32).toNatClampNeg)))]) rfl ?_
      refine lv_iadd hx hb dX4_putBefore_46 ?_
      refine ck_top (y := r_parts (g ((0 : Int32).toNatClampNeg)) + r_parts (f ((0 : Int32).toNatClampNeg))) rfl ?_
      refine lv_istore (lv' := [(5, .int (r_parts (g ((0 : Int32).toNatClampNeg)) + r_parts (f ((0 : Int32).toNatClampNeg)))), (4, .int 0), (3, .int 1), (0, .ref r), (1, .ref q), (2, .int k)]) hx hb dX4_putBefore_47 hl (by decide) rfl (fun ls hl => ?_)
      refine lv_iload_n hx hb dX4_putBefore_49 rfl (lv_at hl 5 rfl) ?_
      refine lv_iload_n hx hb dX4_putBefore_50 rfl (lv_at hl 2 rfl) ?_
      refine lv_isub hx hb dX4_putBefore_51 ?_
      refine ck_top (y := k - 1) rfl ?_
      refine lv_istore (lv' := [(6, .int (k - 1)), (5, .int (r_parts (g ((0 : Int32).toNatClampNeg)) + r_parts (f ((0 : Int32).toNatClampNeg)))), (4, .int 0), (3, .int 1), (0, .ref r), (1, .ref q), (2, .int k)]) hx hb dX4_putBefore_52 hl (by decide) rfl (fun ls hl => ?_)
      refine lv_aload_n hx hb dX4_putBefore_54 rfl (lv_at hl 4 rfl) ?_
      refine va_get (ci := 3) (v := .int n) (C := RX4) (T := TX4) (N := 3) hx hb hts inG_X4 hown hK hP 0 rfl rfl 1 (by decide) (hts _ tw_1_62) (fun _ h9 => h9) rfl dX4_putBefore_55 ?_
      refine lv_iload hx hb dX4_putBefore_58 (lv_at hl 2 rfl) ?_
      refine lv_isub hx hb dX4_putBefore_60 ?_
      refine ck_top (y := n - 0) rfl ?_
      refine lv_istore (lv' := [(7, .int (n - 0)), (6, .int (k - 1)), (5, .int (r_parts (g ((0 : Int32).toNatClampNeg)) + r_parts (f ((0 : Int32).toNatClampNeg)))), (4, .int 0), (3, .int 1), (0, .ref r), (1, .ref q), (2, .int k)]) hx hb dX4_putBefore_61 hl (by decide) rfl (fun ls hl => ?_)
      refine lv_iload hx hb dX4_putBefore_63 (lv_at hl 1 rfl) ?_
      refine lv_if_lt (tgt := 86) hx hb dX4_putBefore_65 (by decide) (fun c_65 => ?_) (fun c_65 => ?_)
      · refine lv_aload_n hx hb dX4_putBefore_86 rfl (lv_at hl 5 rfl) ?_
        refine lv_iconst (v := 1) hx hb dX4_putBefore_87 (by decide) ?_
        refine va_put (ci := 3) (v := .int 1) (ty := .boolean) (C := RX4) (T := TX4) (N := 3) hx hb hts inG_X4 tyX4 tyX4_ok nmX4 hown hK hP hD hS 0 rfl rfl 2 (by decide) (hts _ tw_1_63) (fun _ h9 => h9) rfl (by decide +kernel) rfl rfl (Nat.le_of_ble_eq_true rfl) dX4_putBefore_88 (fun H locs hP hD hS => ?_)
        have hP : va_P D vwCl ([(r, .inr (3, [.ref rc, .int n, .int 1])), (rc, .inl (cR, 512, .inl f))] ++ po) H := hP
        have hD : va_D _ ([(r, .inr (3, [.ref rc, .int n, .int 1])), (rc, .inl (cR, 512, .inl f))] ++ po) := hD
        exact ck_vret ⟨f, n, 1⟩ hx hb hr hlocks ⟨rfl, (by unfold r_before; rw [if_pos c_8, if_pos c_21]; unfold r_bef; rw [if_pos c_65])⟩ (hP.part [0, 1] rfl) (hK.sub [0] rfl) (hD.part [0, 1] (by decide) rfl) hS (by decide) (by decide) dX4_putBefore_91
      · refine lv_iload hx hb dX4_putBefore_68 (lv_at hl 0 rfl) ?_
        refine lv_if_lt (tgt := 86) hx hb dX4_putBefore_70 (by decide) (fun c_70 => ?_) (fun c_70 => ?_)
        · refine lv_aload_n hx hb dX4_putBefore_86 rfl (lv_at hl 5 rfl) ?_
          refine lv_iconst (v := 1) hx hb dX4_putBefore_87 (by decide) ?_
          refine va_put (ci := 3) (v := .int 1) (ty := .boolean) (C := RX4) (T := TX4) (N := 3) hx hb hts inG_X4 tyX4 tyX4_ok nmX4 hown hK hP hD hS 0 rfl rfl 2 (by decide) (hts _ tw_1_63) (fun _ h9 => h9) rfl (by decide +kernel) rfl rfl (Nat.le_of_ble_eq_true rfl) dX4_putBefore_88 (fun H locs hP hD hS => ?_)
          have hP : va_P D vwCl ([(r, .inr (3, [.ref rc, .int n, .int 1])), (rc, .inl (cR, 512, .inl f))] ++ po) H := hP
          have hD : va_D _ ([(r, .inr (3, [.ref rc, .int n, .int 1])), (rc, .inl (cR, 512, .inl f))] ++ po) := hD
          exact ck_vret ⟨f, n, 1⟩ hx hb hr hlocks ⟨rfl, (by unfold r_before; rw [if_pos c_8, if_pos c_21]; unfold r_bef; rw [if_neg c_65, if_pos c_70])⟩ (hP.part [0, 1] rfl) (hK.sub [0] rfl) (hD.part [0, 1] (by decide) rfl) hS (by decide) (by decide) dX4_putBefore_91
        · refine lv_iconst (v := 1) hx hb dX4_putBefore_73 (by decide) ?_
          refine lv_iload hx hb dX4_putBefore_74 (lv_at hl 1 rfl) ?_
          refine lv_iadd hx hb dX4_putBefore_76 ?_
          refine ck_top (y := 1 + (k - 1)) rfl ?_
          refine lv_iload hx hb dX4_putBefore_77 (lv_at hl 0 rfl) ?_
          refine lv_iadd hx hb dX4_putBefore_79 ?_
          refine ck_top (y := 1 + (k - 1) + (n - 0)) rfl ?_
          refine lv_sipush (v := 240) hx hb dX4_putBefore_80 (by decide) ?_
          refine lv_icmp_le (tgt := 92) hx hb dX4_putBefore_83 (by decide) (fun c_83 => ?_) (fun c_83 => ?_)
          · refine lv_aload_n hx hb dX4_putBefore_92 rfl (lv_at hl 5 rfl) ?_
            refine va_get (ci := 3) (v := .ref rc) (C := RX4) (T := TX4) (N := 3) hx hb hts inG_X4 hown hK hP 0 rfl rfl 0 (by decide) (hts _ tw_1_61) (fun _ h9 => h9) rfl dX4_putBefore_93 ?_
            refine lv_iload hx hb dX4_putBefore_96 (lv_at hl 3 rfl) ?_
            refine lv_aload_n hx hb dX4_putBefore_98 rfl (lv_at hl 5 rfl) ?_
            refine va_get (ci := 3) (v := .ref rc) (C := RX4) (T := TX4) (N := 3) hx hb hts inG_X4 hown hK hP 0 rfl rfl 0 (by decide) (hts _ tw_1_61) (fun _ h9 => h9) rfl dX4_putBefore_99 ?_
            refine lv_iconst (v := 1) hx hb dX4_putBefore_102 (by decide) ?_
            refine lv_iload hx hb dX4_putBefore_103 (lv_at hl 1 rfl) ?_
            refine lv_iadd hx hb dX4_putBefore_105 ?_
            refine ck_top (y := 1 + (k - 1)) rfl ?_
            refine lv_iload hx hb dX4_putBefore_106 (lv_at hl 0 rfl) ?_
            refine va_copyi (ty := .int) hx hb (hml.trans hl.1.symm) hown (hts _ tw_2_140) (hts _ tw_acn) (hts _ tw_acs) (hts _ tw_aci) hK hP hD hS 1 1 0 0 rfl rfl rfl rfl rfl (by decide) (bef_1 (s := 1) (o := 0) (by decide) (by decide) hk hn) c_70 (bef_2 (s := 1) (o := 0) (by decide) (by decide) hk hn) (bef_3 (s := 1) (o := 0) (by decide) (by decide) hk hn c_83) (fun _ _ => rfl) (by decide) (Nat.le_of_ble_eq_true rfl) dX4_putBefore_108 (fun H locs hP hD hS => ?_)
            have hP : va_P D vwCl ([(r, .inr (3, [.ref rc, .int n, .int z])), (rc, .inl (cR, 512, .inl (va_cpy f f ((0 : Int32).toNatClampNeg) ((1 + (k - 1)).toNatClampNeg) ((n - 0).toNatClampNeg))))] ++ po) H := hP
            have hD : va_D _ ([(r, .inr (3, [.ref rc, .int n, .int z])), (rc, .inl (cR, 512, .inl (va_cpy f f ((0 : Int32).toNatClampNeg) ((1 + (k - 1)).toNatClampNeg) ((n - 0).toNatClampNeg))))] ++ po) := hD
            refine lv_aload_n hx hb dX4_putBefore_111 rfl (lv_at hl 6 rfl) ?_
            refine lv_iload_n hx hb dX4_putBefore_112 rfl (lv_at hl 4 rfl) ?_
            refine lv_aload_n hx hb dX4_putBefore_113 rfl (lv_at hl 5 rfl) ?_
            refine va_get (ci := 3) (v := .ref rc) (C := RX4) (T := TX4) (N := 3) hx hb hts inG_X4 hown hK hP 0 rfl rfl 0 (by decide) (hts _ tw_1_61) (fun _ h9 => h9) rfl dX4_putBefore_114 ?_
            refine lv_iconst (v := 1) hx hb dX4_putBefore_117 (by decide) ?_
            refine lv_iload hx hb dX4_putBefore_118 (lv_at hl 1 rfl) ?_
            refine va_copyi (ty := .int) hx hb (hml.trans hl.1.symm) hown (hts _ tw_2_140) (hts _ tw_acn) (hts _ tw_acs) (hts _ tw_aci) hK hP hD hS (j + 2) 1 0 0 hgc rfl rfl rfl rfl (by decide) (by decide) c_65 (bef_4 (s := 1) (o := 0) (by decide) (by decide) hk hn hkN) (bef_6 (s := 1) (o := 0) (by decide) (by decide) hk hn c_83) (fun _ _ => rfl) (by decide) (Nat.le_of_ble_eq_true rfl) dX4_putBefore_120 (fun H locs hP hD hS => ?_)
            have hP : va_P D vwCl ([(r, .inr (3, [.ref rc, .int n, .int z])), (rc, .inl (cR, 512, .inl (va_cpy g (va_cpy f f ((0 : Int32).toNatClampNeg) ((1 + (k - 1)).toNatClampNeg) ((n - 0).toNatClampNeg)) ((1 : Int32).toNatClampNeg) ((1 : Int32).toNatClampNeg) ((k - 1).toNatClampNeg))))] ++ po) H := hP
            have hD : va_D _ ([(r, .inr (3, [.ref rc, .int n, .int z])), (rc, .inl (cR, 512, .inl (va_cpy g (va_cpy f f ((0 : Int32).toNatClampNeg) ((1 + (k - 1)).toNatClampNeg) ((n - 0).toNatClampNeg)) ((1 : Int32).toNatClampNeg) ((1 : Int32).toNatClampNeg) ((k - 1).toNatClampNeg))))] ++ po) := hD
            refine lv_aload_n hx hb dX4_putBefore_123 rfl (lv_at hl 5 rfl) ?_
            refine va_get (ci := 3) (v := .ref rc) (C := RX4) (T := TX4) (N := 3) hx hb hts inG_X4 hown hK hP 0 rfl rfl 0 (by decide) (hts _ tw_1_61) (fun _ h9 => h9) rfl dX4_putBefore_124 ?_
            refine lv_iconst (v := 0) hx hb dX4_putBefore_127 (by decide) ?_
            refine lv_bipush (v := 7) hx hb dX4_putBefore_128 (by decide) ?_
            refine lv_iload hx hb dX4_putBefore_130 (lv_at hl 2 rfl) ?_
            refine ck_runQ (wr := [(r, .inr (3, [.ref rc, .int n, .int z])), (rc, .inl (cR, 512, .inl (va_cpy g (va_cpy f f ((0 : Int32).toNatClampNeg) ((1 + (k - 1)).toNatClampNeg) ((n - 0).toNatClampNeg)) ((1 : Int32).toNatClampNeg) ((1 : Int32).toNatClampNeg) ((k - 1).toNatClampNeg))))]) (va_runS (As := [.int 7, .int (r_parts (g ((0 : Int32).toNatClampNeg)) + r_parts (f ((0 : Int32).toNatClampNeg)))]) (rest := [.int 0, .ref rc]) ⟨hx, hb, hml, hown, hts⟩ (c_of l D H.size 7 (r_parts (g ((0 : Int32).toNatClampNeg)) + r_parts (f ((0 : Int32).toNatClampNeg)))) (cw_S (n := 2) hts tw_2_186 tw_2_60 tw_1_8 tw_2_61 (by decide +kernel) ⟨by decide, by decide⟩) ⟨pre.blind, fun U hU hW => ⟨rfl, pre.of (wc := []) (tysc := []) (tk := []) hP.left hD.left hK hS hA hE hZ [] (by decide) rfl rfl rfl U hU hW⟩⟩ rfl rfl hl.1 rfl (lv_room (Nat.le_of_ble_eq_true rfl)) dX4_putBefore_132 ⟨by decide, by decide⟩) hP hD hK hS hA [] [0, 1] rfl rfl (by decide) (by decide) (fun v u H locs hw hP hD hK9 hS => ?_)
            have hw : v = some (.int ((r_parts (g ((0 : Int32).toNatClampNeg)) + r_parts (f ((0 : Int32).toNatClampNeg))) <<< ((4 : Int32) &&& 31) ||| 7)) := hw
            subst hw
            have hP : va_P D vwCl ([(r, .inr (3, [.ref rc, .int n, .int z])), (rc, .inl (cR, 512, .inl (va_cpy g (va_cpy f f ((0 : Int32).toNatClampNeg) ((1 + (k - 1)).toNatClampNeg) ((n - 0).toNatClampNeg)) ((1 : Int32).toNatClampNeg) ((1 : Int32).toNatClampNeg) ((k - 1).toNatClampNeg))))] ++ po) H := hP
            have hD : va_D _ ([(r, .inr (3, [.ref rc, .int n, .int z])), (rc, .inl (cR, 512, .inl (va_cpy g (va_cpy f f ((0 : Int32).toNatClampNeg) ((1 + (k - 1)).toNatClampNeg) ((n - 0).toNatClampNeg)) ((1 : Int32).toNatClampNeg) ((1 : Int32).toNatClampNeg) ((k - 1).toNatClampNeg))))] ++ po) := hD
            refine W.eq (g2 := F0 m 135 ls [.int ((r_parts (g ((0 : Int32).toNatClampNeg)) + r_parts (f ((0 : Int32).toNatClampNeg))) <<< ((4 : Int32) &&& 31) ||| 7), .int 0, .ref rc]) rfl ?_
            refine va_iast hx hb hK hP hD hS 1 0 rfl rfl (vi (by decide)) dX4_putBefore_135 (fun H locs hP hD hS => ?_)
            have hP : va_P D vwCl ([(r, .inr (3, [.ref rc, .int n, .int z])), (rc, .inl (cR, 512, .inl (upd (va_cpy g (va_cpy f f ((0 : Int32).toNatClampNeg) ((1 + (k - 1)).toNatClampNeg) ((n - 0).toNatClampNeg)) ((1 : Int32).toNatClampNeg) ((1 : Int32).toNatClampNeg) ((k - 1).toNatClampNeg)) ((0 : Int32).toNatClampNeg) ((r_parts (g ((0 : Int32).toNatClampNeg)) + r_parts (f ((0 : Int32).toNatClampNeg))) <<< ((4 : Int32) &&& 31) ||| 7))))] ++ po) H := hP
            have hD : va_D _ ([(r, .inr (3, [.ref rc, .int n, .int z])), (rc, .inl (cR, 512, .inl (upd (va_cpy g (va_cpy f f ((0 : Int32).toNatClampNeg) ((1 + (k - 1)).toNatClampNeg) ((n - 0).toNatClampNeg)) ((1 : Int32).toNatClampNeg) ((1 : Int32).toNatClampNeg) ((k - 1).toNatClampNeg)) ((0 : Int32).toNatClampNeg) ((r_parts (g ((0 : Int32).toNatClampNeg)) + r_parts (f ((0 : Int32).toNatClampNeg))) <<< ((4 : Int32) &&& 31) ||| 7))))] ++ po) := hD
            refine lv_aload_n hx hb dX4_putBefore_136 rfl (lv_at hl 5 rfl) ?_
            refine lv_iconst (v := 1) hx hb dX4_putBefore_137 (by decide) ?_
            refine lv_iload hx hb dX4_putBefore_138 (lv_at hl 1 rfl) ?_
            refine lv_iadd hx hb dX4_putBefore_140 ?_
            refine ck_top (y := 1 + (k - 1)) rfl ?_
            refine lv_iload hx hb dX4_putBefore_141 (lv_at hl 0 rfl) ?_
            refine lv_iadd hx hb dX4_putBefore_143 ?_
            refine ck_top (y := 1 + (k - 1) + (n - 0)) rfl ?_
            refine va_put (ci := 3) (v := .int (1 + (k - 1) + (n - 0))) (ty := .int) (C := RX4) (T := TX4) (N := 3) hx hb hts inG_X4 tyX4 tyX4_ok nmX4 hown hK hP hD hS 0 rfl rfl 1 (by decide) (hts _ tw_1_62) (fun _ h9 => h9) rfl (by decide +kernel) rfl rfl (Nat.le_of_ble_eq_true rfl) dX4_putBefore_144 (fun H locs hP hD hS => ?_)
            have hP : va_P D vwCl ([(r, .inr (3, [.ref rc, .int (1 + (k - 1) + (n - 0)), .int z])), (rc, .inl (cR, 512, .inl (upd (va_cpy g (va_cpy f f ((0 : Int32).toNatClampNeg) ((1 + (k - 1)).toNatClampNeg) ((n - 0).toNatClampNeg)) ((1 : Int32).toNatClampNeg) ((1 : Int32).toNatClampNeg) ((k - 1).toNatClampNeg)) ((0 : Int32).toNatClampNeg) ((r_parts (g ((0 : Int32).toNatClampNeg)) + r_parts (f ((0 : Int32).toNatClampNeg))) <<< ((4 : Int32) &&& 31) ||| 7))))] ++ po) H := hP
            have hD : va_D _ ([(r, .inr (3, [.ref rc, .int (1 + (k - 1) + (n - 0)), .int z])), (rc, .inl (cR, 512, .inl (upd (va_cpy g (va_cpy f f ((0 : Int32).toNatClampNeg) ((1 + (k - 1)).toNatClampNeg) ((n - 0).toNatClampNeg)) ((1 : Int32).toNatClampNeg) ((1 : Int32).toNatClampNeg) ((k - 1).toNatClampNeg)) ((0 : Int32).toNatClampNeg) ((r_parts (g ((0 : Int32).toNatClampNeg)) + r_parts (f ((0 : Int32).toNatClampNeg))) <<< ((4 : Int32) &&& 31) ||| 7))))] ++ po) := hD
            exact ck_vret ⟨upd (va_cpy g (va_cpy f f ((0 : Int32).toNatClampNeg) ((1 + (k - 1)).toNatClampNeg) ((n - 0).toNatClampNeg)) ((1 : Int32).toNatClampNeg) ((1 : Int32).toNatClampNeg) ((k - 1).toNatClampNeg)) ((0 : Int32).toNatClampNeg) ((r_parts (g ((0 : Int32).toNatClampNeg)) + r_parts (f ((0 : Int32).toNatClampNeg))) <<< ((4 : Int32) &&& 31) ||| 7), 1 + (k - 1) + (n - 0), z⟩ hx hb hr hlocks ⟨rfl, (by unfold r_before; rw [if_pos c_8, if_pos c_21]; unfold r_bef; rw [if_neg c_65, if_neg c_70, if_pos c_83])⟩ (hP.part [0, 1] rfl) (hK.sub [0] rfl) (hD.part [0, 1] (by decide) rfl) hS (by decide) (by decide) dX4_putBefore_147
          · refine lv_aload_n hx hb dX4_putBefore_86 rfl (lv_at hl 5 rfl) ?_
            refine lv_iconst (v := 1) hx hb dX4_putBefore_87 (by decide) ?_
            refine va_put (ci := 3) (v := .int 1) (ty := .boolean) (C := RX4) (T := TX4) (N := 3) hx hb hts inG_X4 tyX4 tyX4_ok nmX4 hown hK hP hD hS 0 rfl rfl 2 (by decide) (hts _ tw_1_63) (fun _ h9 => h9) rfl (by decide +kernel) rfl rfl (Nat.le_of_ble_eq_true rfl) dX4_putBefore_88 (fun H locs hP hD hS => ?_)
            have hP : va_P D vwCl ([(r, .inr (3, [.ref rc, .int n, .int 1])), (rc, .inl (cR, 512, .inl f))] ++ po) H := hP
            have hD : va_D _ ([(r, .inr (3, [.ref rc, .int n, .int 1])), (rc, .inl (cR, 512, .inl f))] ++ po) := hD
            exact ck_vret ⟨f, n, 1⟩ hx hb hr hlocks ⟨rfl, (by unfold r_before; rw [if_pos c_8, if_pos c_21]; unfold r_bef; rw [if_neg c_65, if_neg c_70, if_neg c_83])⟩ (hP.part [0, 1] rfl) (hK.sub [0] rfl) (hD.part [0, 1] (by decide) rfl) hS (by decide) (by decide) dX4_putBefore_91
    · refine lv_iconst (v := 1) hx hb dX4_putBefore_24 (by decide) ?_
      refine lv_goto (tgt := 29) hx hb dX4_putBefore_25 (by decide) ?_
      refine lv_istore (lv' := [(4, .int 1), (3, .int 1), (0, .ref r), (1, .ref q), (2, .int k)]) hx hb dX4_putBefore_29 hl (by decide) rfl (fun ls hl => ?_)
      refine lv_aload_n hx hb dX4_putBefore_31 rfl (lv_at hl 3 rfl) ?_
      refine lv_iconst (v := 0) hx hb dX4_putBefore_32 (by decide) ?_
      refine va_iald hx hb hK hP (j + 2) 0 hgc rfl (g_in0 hN.1) dX4_putBefore_33 ?_
      refine ck_top (y := g ((0 : Int32).toNatClampNeg)) rfl ?_
      refine ck_runQ (wr := [(r, .inr (3, [.ref rc, .int n, .int z])), (rc, .inl (cR, 512, .inl f))]) (va_runS (As := [.int (g ((0 : Int32).toNatClampNeg))]) (rest := []) ⟨hx, hb, hml, hown, hts⟩ (c_parts l D H.size (g ((0 : Int32).toNatClampNeg))) (cw_S (n := 1) hts tw_2_182 tw_2_183 tw_1_3 tw_2_184 (by decide +kernel) ⟨by decide, by decide⟩) ⟨pre.blind, fun U hU hW => ⟨rfl, pre.of (wc := []) (tysc := []) (tk := []) hP.left hD.left hK hS hA hE hZ [] (by decide) rfl rfl rfl U hU hW⟩⟩ rfl rfl hl.1 rfl (lv_room (Nat.le_of_ble_eq_true rfl)) dX4_putBefore_34 ⟨by decide, by decide⟩) hP hD hK hS hA [] [0, 1] rfl rfl (by decide) (by decide) (fun v u H locs hw hP hD hK9 hS => ?_)
      have hw : v = some (.int (r_parts (g ((0 : Int32).toNatClampNeg)))) := hw
      subst hw
      have hP : va_P D vwCl ([(r, .inr (3, [.ref rc, .int n, .int z])), (rc, .inl (cR, 512, .inl f))] ++ po) H := hP
      have hD : va_D _ ([(r, .inr (3, [.ref rc, .int n, .int z])), (rc, .inl (cR, 512, .inl f))] ++ po) := hD
      refine W.eq (g2 := F0 m 37 ls [.int (r_parts (g ((0 : Int32).toNatClampNeg)))]) rfl ?_
      refine lv_aload_n hx hb dX4_putBefore_37 rfl (lv_at hl 2 rfl) ?_
      refine va_get (ci := 3) (v := .ref rc) (C := RX4) (T := TX4) (N := 3) hx hb hts inG_X4 hown hK hP 0 rfl rfl 0 (by decide) (hts _ tw_1_61) (fun _ h9 => h9) rfl dX4_putBefore_38 ?_
      refine lv_iconst (v := 0) hx hb dX4_putBefore_41 (by decide) ?_
      refine va_iald hx hb hK hP 1 0 rfl rfl (vi (by decide)) dX4_putBefore_42 ?_
      refine ck_top (y := f ((0 : Int32).toNatClampNeg)) rfl ?_
      refine ck_runQ (wr := [(r, .inr (3, [.ref rc, .int n, .int z])), (rc, .inl (cR, 512, .inl f))]) (va_runS (As := [.int (f ((0 : Int32).toNatClampNeg))]) (rest := [.int (r_parts (g ((0 : Int32).toNatClampNeg)))]) ⟨hx, hb, hml, hown, hts⟩ (c_parts l D H.size (f ((0 : Int32).toNatClampNeg))) (cw_S (n := 1) hts tw_2_182 tw_2_183 tw_1_3 tw_2_184 (by decide +kernel) ⟨by decide, by decide⟩) ⟨pre.blind, fun U hU hW => ⟨rfl, pre.of (wc := []) (tysc := []) (tk := []) hP.left hD.left hK hS hA hE hZ [] (by decide) rfl rfl rfl U hU hW⟩⟩ rfl rfl hl.1 rfl (lv_room (Nat.le_of_ble_eq_true rfl)) dX4_putBefore_43 ⟨by decide, by decide⟩) hP hD hK hS hA [] [0, 1] rfl rfl (by decide) (by decide) (fun v u H locs hw hP hD hK9 hS => ?_)
      have hw : v = some (.int (r_parts (f ((0 : Int32).toNatClampNeg)))) := hw
      subst hw
      have hP : va_P D vwCl ([(r, .inr (3, [.ref rc, .int n, .int z])), (rc, .inl (cR, 512, .inl f))] ++ po) H := hP
      have hD : va_D _ ([(r, .inr (3, [.ref rc, .int n, .int z])), (rc, .inl (cR, 512, .inl f))] ++ po) := hD
      refine W.eq (g2 := F0 m 46 ls [.int (r_parts (f ((0 : Int32).toNatClampNeg))), .int (r_parts (g ((0 : Int32).toNatClampNeg)))]) rfl ?_
      refine lv_iadd hx hb dX4_putBefore_46 ?_
      refine ck_top (y := r_parts (g ((0 : Int32).toNatClampNeg)) + r_parts (f ((0 : Int32).toNatClampNeg))) rfl ?_
      refine lv_istore (lv' := [(5, .int (r_parts (g ((0 : Int32).toNatClampNeg)) + r_parts (f ((0 : Int32).toNatClampNeg)))), (4, .int 1), (3, .int 1), (0, .ref r), (1, .ref q), (2, .int k)]) hx hb dX4_putBefore_47 hl (by decide) rfl (fun ls hl => ?_)
      refine lv_iload_n hx hb dX4_putBefore_49 rfl (lv_at hl 5 rfl) ?_
      refine lv_iload_n hx hb dX4_putBefore_50 rfl (lv_at hl 2 rfl) ?_
      refine lv_isub hx hb dX4_putBefore_51 ?_
      refine ck_top (y := k - 1) rfl ?_
      refine lv_istore (lv' := [(6, .int (k - 1)), (5, .int (r_parts (g ((0 : Int32).toNatClampNeg)) + r_parts (f ((0 : Int32).toNatClampNeg)))), (4, .int 1), (3, .int 1), (0, .ref r), (1, .ref q), (2, .int k)]) hx hb dX4_putBefore_52 hl (by decide) rfl (fun ls hl => ?_)
      refine lv_aload_n hx hb dX4_putBefore_54 rfl (lv_at hl 4 rfl) ?_
      refine va_get (ci := 3) (v := .int n) (C := RX4) (T := TX4) (N := 3) hx hb hts inG_X4 hown hK hP 0 rfl rfl 1 (by decide) (hts _ tw_1_62) (fun _ h9 => h9) rfl dX4_putBefore_55 ?_
      refine lv_iload hx hb dX4_putBefore_58 (lv_at hl 2 rfl) ?_
      refine lv_isub hx hb dX4_putBefore_60 ?_
      refine ck_top (y := n - 1) rfl ?_
      refine lv_istore (lv' := [(7, .int (n - 1)), (6, .int (k - 1)), (5, .int (r_parts (g ((0 : Int32).toNatClampNeg)) + r_parts (f ((0 : Int32).toNatClampNeg)))), (4, .int 1), (3, .int 1), (0, .ref r), (1, .ref q), (2, .int k)]) hx hb dX4_putBefore_61 hl (by decide) rfl (fun ls hl => ?_)
      refine lv_iload hx hb dX4_putBefore_63 (lv_at hl 1 rfl) ?_
      refine lv_if_lt (tgt := 86) hx hb dX4_putBefore_65 (by decide) (fun c_65 => ?_) (fun c_65 => ?_)
      · refine lv_aload_n hx hb dX4_putBefore_86 rfl (lv_at hl 5 rfl) ?_
        refine lv_iconst (v := 1) hx hb dX4_putBefore_87 (by decide) ?_
        refine va_put (ci := 3) (v := .int 1) (ty := .boolean) (C := RX4) (T := TX4) (N := 3) hx hb hts inG_X4 tyX4 tyX4_ok nmX4 hown hK hP hD hS 0 rfl rfl 2 (by decide) (hts _ tw_1_63) (fun _ h9 => h9) rfl (by decide +kernel) rfl rfl (Nat.le_of_ble_eq_true rfl) dX4_putBefore_88 (fun H locs hP hD hS => ?_)
        have hP : va_P D vwCl ([(r, .inr (3, [.ref rc, .int n, .int 1])), (rc, .inl (cR, 512, .inl f))] ++ po) H := hP
        have hD : va_D _ ([(r, .inr (3, [.ref rc, .int n, .int 1])), (rc, .inl (cR, 512, .inl f))] ++ po) := hD
        exact ck_vret ⟨f, n, 1⟩ hx hb hr hlocks ⟨rfl, (by unfold r_before; rw [if_pos c_8, if_neg c_21]; unfold r_bef; rw [if_pos c_65])⟩ (hP.part [0, 1] rfl) (hK.sub [0] rfl) (hD.part [0, 1] (by decide) rfl) hS (by decide) (by decide) dX4_putBefore_91
      · refine lv_iload hx hb dX4_putBefore_68 (lv_at hl 0 rfl) ?_
        refine lv_if_lt (tgt := 86) hx hb dX4_putBefore_70 (by decide) (fun c_70 => ?_) (fun c_70 => ?_)
        · refine lv_aload_n hx hb dX4_putBefore_86 rfl (lv_at hl 5 rfl) ?_
          refine lv_iconst (v := 1) hx hb dX4_putBefore_87 (by decide) ?_
          refine va_put (ci := 3) (v := .int 1) (ty := .boolean) (C := RX4) (T := TX4) (N := 3) hx hb hts inG_X4 tyX4 tyX4_ok nmX4 hown hK hP hD hS 0 rfl rfl 2 (by decide) (hts _ tw_1_63) (fun _ h9 => h9) rfl (by decide +kernel) rfl rfl (Nat.le_of_ble_eq_true rfl) dX4_putBefore_88 (fun H locs hP hD hS => ?_)
          have hP : va_P D vwCl ([(r, .inr (3, [.ref rc, .int n, .int 1])), (rc, .inl (cR, 512, .inl f))] ++ po) H := hP
          have hD : va_D _ ([(r, .inr (3, [.ref rc, .int n, .int 1])), (rc, .inl (cR, 512, .inl f))] ++ po) := hD
          exact ck_vret ⟨f, n, 1⟩ hx hb hr hlocks ⟨rfl, (by unfold r_before; rw [if_pos c_8, if_neg c_21]; unfold r_bef; rw [if_neg c_65, if_pos c_70])⟩ (hP.part [0, 1] rfl) (hK.sub [0] rfl) (hD.part [0, 1] (by decide) rfl) hS (by decide) (by decide) dX4_putBefore_91
        · refine lv_iconst (v := 1) hx hb dX4_putBefore_73 (by decide) ?_
          refine lv_iload hx hb dX4_putBefore_74 (lv_at hl 1 rfl) ?_
          refine lv_iadd hx hb dX4_putBefore_76 ?_
          refine ck_top (y := 1 + (k - 1)) rfl ?_
          refine lv_iload hx hb dX4_putBefore_77 (lv_at hl 0 rfl) ?_
          refine lv_iadd hx hb dX4_putBefore_79 ?_
          refine ck_top (y := 1 + (k - 1) + (n - 1)) rfl ?_
          refine lv_sipush (v := 240) hx hb dX4_putBefore_80 (by decide) ?_
          refine lv_icmp_le (tgt := 92) hx hb dX4_putBefore_83 (by decide) (fun c_83 => ?_) (fun c_83 => ?_)
          · refine lv_aload_n hx hb dX4_putBefore_92 rfl (lv_at hl 5 rfl) ?_
            refine va_get (ci := 3) (v := .ref rc) (C := RX4) (T := TX4) (N := 3) hx hb hts inG_X4 hown hK hP 0 rfl rfl 0 (by decide) (hts _ tw_1_61) (fun _ h9 => h9) rfl dX4_putBefore_93 ?_
            refine lv_iload hx hb dX4_putBefore_96 (lv_at hl 3 rfl) ?_
            refine lv_aload_n hx hb dX4_putBefore_98 rfl (lv_at hl 5 rfl) ?_
            refine va_get (ci := 3) (v := .ref rc) (C := RX4) (T := TX4) (N := 3) hx hb hts inG_X4 hown hK hP 0 rfl rfl 0 (by decide) (hts _ tw_1_61) (fun _ h9 => h9) rfl dX4_putBefore_99 ?_
            refine lv_iconst (v := 1) hx hb dX4_putBefore_102 (by decide) ?_
            refine lv_iload hx hb dX4_putBefore_103 (lv_at hl 1 rfl) ?_
            refine lv_iadd hx hb dX4_putBefore_105 ?_
            refine ck_top (y := 1 + (k - 1)) rfl ?_
            refine lv_iload hx hb dX4_putBefore_106 (lv_at hl 0 rfl) ?_
            refine va_copyi (ty := .int) hx hb (hml.trans hl.1.symm) hown (hts _ tw_2_140) (hts _ tw_acn) (hts _ tw_acs) (hts _ tw_aci) hK hP hD hS 1 1 0 0 rfl rfl rfl rfl rfl (by decide) (bef_1 (s := 1) (o := 1) (by decide) (by decide) hk hn) c_70 (bef_2 (s := 1) (o := 1) (by decide) (by decide) hk hn) (bef_3 (s := 1) (o := 1) (by decide) (by decide) hk hn c_83) (fun _ _ => rfl) (by decide) (Nat.le_of_ble_eq_true rfl) dX4_putBefore_108 (fun H locs hP hD hS => ?_)
            have hP : va_P D vwCl ([(r, .inr (3, [.ref rc, .int n, .int z])), (rc, .inl (cR, 512, .inl (va_cpy f f ((1 : Int32).toNatClampNeg) ((1 + (k - 1)).toNatClampNeg) ((n - 1).toNatClampNeg))))] ++ po) H := hP
            have hD : va_D _ ([(r, .inr (3, [.ref rc, .int n, .int z])), (rc, .inl (cR, 512, .inl (va_cpy f f ((1 : Int32).toNatClampNeg) ((1 + (k - 1)).toNatClampNeg) ((n - 1).toNatClampNeg))))] ++ po) := hD
            refine lv_aload_n hx hb dX4_putBefore_111 rfl (lv_at hl 6 rfl) ?_
            refine lv_iload_n hx hb dX4_putBefore_112 rfl (lv_at hl 4 rfl) ?_
            refine lv_aload_n hx hb dX4_putBefore_113 rfl (lv_at hl 5 rfl) ?_
            refine va_get (ci := 3) (v := .ref rc) (C := RX4) (T := TX4) (N := 3) hx hb hts inG_X4 hown hK hP 0 rfl rfl 0 (by decide) (hts _ tw_1_61) (fun _ h9 => h9) rfl dX4_putBefore_114 ?_
            refine lv_iconst (v := 1) hx hb dX4_putBefore_117 (by decide) ?_
            refine lv_iload hx hb dX4_putBefore_118 (lv_at hl 1 rfl) ?_
            refine va_copyi (ty := .int) hx hb (hml.trans hl.1.symm) hown (hts _ tw_2_140) (hts _ tw_acn) (hts _ tw_acs) (hts _ tw_aci) hK hP hD hS (j + 2) 1 0 0 hgc rfl rfl rfl rfl (by decide) (by decide) c_65 (bef_4 (s := 1) (o := 1) (by decide) (by decide) hk hn hkN) (bef_6 (s := 1) (o := 1) (by decide) (by decide) hk hn c_83) (fun _ _ => rfl) (by decide) (Nat.le_of_ble_eq_true rfl) dX4_putBefore_120 (fun H locs hP hD hS => ?_)
            have hP : va_P D vwCl ([(r, .inr (3, [.ref rc, .int n, .int z])), (rc, .inl (cR, 512, .inl (va_cpy g (va_cpy f f ((1 : Int32).toNatClampNeg) ((1 + (k - 1)).toNatClampNeg) ((n - 1).toNatClampNeg)) ((1 : Int32).toNatClampNeg) ((1 : Int32).toNatClampNeg) ((k - 1).toNatClampNeg))))] ++ po) H := hP
            have hD : va_D _ ([(r, .inr (3, [.ref rc, .int n, .int z])), (rc, .inl (cR, 512, .inl (va_cpy g (va_cpy f f ((1 : Int32).toNatClampNeg) ((1 + (k - 1)).toNatClampNeg) ((n - 1).toNatClampNeg)) ((1 : Int32).toNatClampNeg) ((1 : Int32).toNatClampNeg) ((k - 1).toNatClampNeg))))] ++ po) := hD
            refine lv_aload_n hx hb dX4_putBefore_123 rfl (lv_at hl 5 rfl) ?_
            refine va_get (ci := 3) (v := .ref rc) (C := RX4) (T := TX4) (N := 3) hx hb hts inG_X4 hown hK hP 0 rfl rfl 0 (by decide) (hts _ tw_1_61) (fun _ h9 => h9) rfl dX4_putBefore_124 ?_
            refine lv_iconst (v := 0) hx hb dX4_putBefore_127 (by decide) ?_
            refine lv_bipush (v := 7) hx hb dX4_putBefore_128 (by decide) ?_
            refine lv_iload hx hb dX4_putBefore_130 (lv_at hl 2 rfl) ?_
            refine ck_runQ (wr := [(r, .inr (3, [.ref rc, .int n, .int z])), (rc, .inl (cR, 512, .inl (va_cpy g (va_cpy f f ((1 : Int32).toNatClampNeg) ((1 + (k - 1)).toNatClampNeg) ((n - 1).toNatClampNeg)) ((1 : Int32).toNatClampNeg) ((1 : Int32).toNatClampNeg) ((k - 1).toNatClampNeg))))]) (va_runS (As := [.int 7, .int (r_parts (g ((0 : Int32).toNatClampNeg)) + r_parts (f ((0 : Int32).toNatClampNeg)))]) (rest := [.int 0, .ref rc]) ⟨hx, hb, hml, hown, hts⟩ (c_of l D H.size 7 (r_parts (g ((0 : Int32).toNatClampNeg)) + r_parts (f ((0 : Int32).toNatClampNeg)))) (cw_S (n := 2) hts tw_2_186 tw_2_60 tw_1_8 tw_2_61 (by decide +kernel) ⟨by decide, by decide⟩) ⟨pre.blind, fun U hU hW => ⟨rfl, pre.of (wc := []) (tysc := []) (tk := []) hP.left hD.left hK hS hA hE hZ [] (by decide) rfl rfl rfl U hU hW⟩⟩ rfl rfl hl.1 rfl (lv_room (Nat.le_of_ble_eq_true rfl)) dX4_putBefore_132 ⟨by decide, by decide⟩) hP hD hK hS hA [] [0, 1] rfl rfl (by decide) (by decide) (fun v u H locs hw hP hD hK9 hS => ?_)
            have hw : v = some (.int ((r_parts (g ((0 : Int32).toNatClampNeg)) + r_parts (f ((0 : Int32).toNatClampNeg))) <<< ((4 : Int32) &&& 31) ||| 7)) := hw
            subst hw
            have hP : va_P D vwCl ([(r, .inr (3, [.ref rc, .int n, .int z])), (rc, .inl (cR, 512, .inl (va_cpy g (va_cpy f f ((1 : Int32).toNatClampNeg) ((1 + (k - 1)).toNatClampNeg) ((n - 1).toNatClampNeg)) ((1 : Int32).toNatClampNeg) ((1 : Int32).toNatClampNeg) ((k - 1).toNatClampNeg))))] ++ po) H := hP
            have hD : va_D _ ([(r, .inr (3, [.ref rc, .int n, .int z])), (rc, .inl (cR, 512, .inl (va_cpy g (va_cpy f f ((1 : Int32).toNatClampNeg) ((1 + (k - 1)).toNatClampNeg) ((n - 1).toNatClampNeg)) ((1 : Int32).toNatClampNeg) ((1 : Int32).toNatClampNeg) ((k - 1).toNatClampNeg))))] ++ po) := hD
            refine W.eq (g2 := F0 m 135 ls [.int ((r_parts (g ((0 : Int32).toNatClampNeg)) + r_parts (f ((0 : Int32).toNatClampNeg))) <<< ((4 : Int32) &&& 31) ||| 7), .int 0, .ref rc]) rfl ?_
            refine va_iast hx hb hK hP hD hS 1 0 rfl rfl (vi (by decide)) dX4_putBefore_135 (fun H locs hP hD hS => ?_)
            have hP : va_P D vwCl ([(r, .inr (3, [.ref rc, .int n, .int z])), (rc, .inl (cR, 512, .inl (upd (va_cpy g (va_cpy f f ((1 : Int32).toNatClampNeg) ((1 + (k - 1)).toNatClampNeg) ((n - 1).toNatClampNeg)) ((1 : Int32).toNatClampNeg) ((1 : Int32).toNatClampNeg) ((k - 1).toNatClampNeg)) ((0 : Int32).toNatClampNeg) ((r_parts (g ((0 : Int32).toNatClampNeg)) + r_parts (f ((0 : Int32).toNatClampNeg))) <<< ((4 : Int32) &&& 31) ||| 7))))] ++ po) H := hP
            have hD : va_D _ ([(r, .inr (3, [.ref rc, .int n, .int z])), (rc, .inl (cR, 512, .inl (upd (va_cpy g (va_cpy f f ((1 : Int32).toNatClampNeg) ((1 + (k - 1)).toNatClampNeg) ((n - 1).toNatClampNeg)) ((1 : Int32).toNatClampNeg) ((1 : Int32).toNatClampNeg) ((k - 1).toNatClampNeg)) ((0 : Int32).toNatClampNeg) ((r_parts (g ((0 : Int32).toNatClampNeg)) + r_parts (f ((0 : Int32).toNatClampNeg))) <<< ((4 : Int32) &&& 31) ||| 7))))] ++ po) := hD
            refine lv_aload_n hx hb dX4_putBefore_136 rfl (lv_at hl 5 rfl) ?_
            refine lv_iconst (v := 1) hx hb dX4_putBefore_137 (by decide) ?_
            refine lv_iload hx hb dX4_putBefore_138 (lv_at hl 1 rfl) ?_
            refine lv_iadd hx hb dX4_putBefore_140 ?_
            refine ck_top (y := 1 + (k - 1)) rfl ?_
            refine lv_iload hx hb dX4_putBefore_141 (lv_at hl 0 rfl) ?_
            refine lv_iadd hx hb dX4_putBefore_143 ?_
            refine ck_top (y := 1 + (k - 1) + (n - 1)) rfl ?_
            refine va_put (ci := 3) (v := .int (1 + (k - 1) + (n - 1))) (ty := .int) (C := RX4) (T := TX4) (N := 3) hx hb hts inG_X4 tyX4 tyX4_ok nmX4 hown hK hP hD hS 0 rfl rfl 1 (by decide) (hts _ tw_1_62) (fun _ h9 => h9) rfl (by decide +kernel) rfl rfl (Nat.le_of_ble_eq_true rfl) dX4_putBefore_144 (fun H locs hP hD hS => ?_)
            have hP : va_P D vwCl ([(r, .inr (3, [.ref rc, .int (1 + (k - 1) + (n - 1)), .int z])), (rc, .inl (cR, 512, .inl (upd (va_cpy g (va_cpy f f ((1 : Int32).toNatClampNeg) ((1 + (k - 1)).toNatClampNeg) ((n - 1).toNatClampNeg)) ((1 : Int32).toNatClampNeg) ((1 : Int32).toNatClampNeg) ((k - 1).toNatClampNeg)) ((0 : Int32).toNatClampNeg) ((r_parts (g ((0 : Int32).toNatClampNeg)) + r_parts (f ((0 : Int32).toNatClampNeg))) <<< ((4 : Int32) &&& 31) ||| 7))))] ++ po) H := hP
            have hD : va_D _ ([(r, .inr (3, [.ref rc, .int (1 + (k - 1) + (n - 1)), .int z])), (rc, .inl (cR, 512, .inl (upd (va_cpy g (va_cpy f f ((1 : Int32).toNatClampNeg) ((1 + (k - 1)).toNatClampNeg) ((n - 1).toNatClampNeg)) ((1 : Int32).toNatClampNeg) ((1 : Int32).toNatClampNeg) ((k - 1).toNatClampNeg)) ((0 : Int32).toNatClampNeg) ((r_parts (g ((0 : Int32).toNatClampNeg)) + r_parts (f ((0 : Int32).toNatClampNeg))) <<< ((4 : Int32) &&& 31) ||| 7))))] ++ po) := hD
            exact ck_vret ⟨upd (va_cpy g (va_cpy f f ((1 : Int32).toNatClampNeg) ((1 + (k - 1)).toNatClampNeg) ((n - 1).toNatClampNeg)) ((1 : Int32).toNatClampNeg) ((1 : Int32).toNatClampNeg) ((k - 1).toNatClampNeg)) ((0 : Int32).toNatClampNeg) ((r_parts (g ((0 : Int32).toNatClampNeg)) + r_parts (f ((0 : Int32).toNatClampNeg))) <<< ((4 : Int32) &&& 31) ||| 7), 1 + (k - 1) + (n - 1), z⟩ hx hb hr hlocks ⟨rfl, (by unfold r_before; rw [if_pos c_8, if_neg c_21]; unfold r_bef; rw [if_neg c_65, if_neg c_70, if_pos c_83])⟩ (hP.part [0, 1] rfl) (hK.sub [0] rfl) (hD.part [0, 1] (by decide) rfl) hS (by decide) (by decide) dX4_putBefore_147
          · refine lv_aload_n hx hb dX4_putBefore_86 rfl (lv_at hl 5 rfl) ?_
            refine lv_iconst (v := 1) hx hb dX4_putBefore_87 (by decide) ?_
            refine va_put (ci := 3) (v := .int 1) (ty := .boolean) (C := RX4) (T := TX4) (N := 3) hx hb hts inG_X4 tyX4 tyX4_ok nmX4 hown hK hP hD hS 0 rfl rfl 2 (by decide) (hts _ tw_1_63) (fun _ h9 => h9) rfl (by decide +kernel) rfl rfl (Nat.le_of_ble_eq_true rfl) dX4_putBefore_88 (fun H locs hP hD hS => ?_)
            have hP : va_P D vwCl ([(r, .inr (3, [.ref rc, .int n, .int 1])), (rc, .inl (cR, 512, .inl f))] ++ po) H := hP
            have hD : va_D _ ([(r, .inr (3, [.ref rc, .int n, .int 1])), (rc, .inl (cR, 512, .inl f))] ++ po) := hD
            exact ck_vret ⟨f, n, 1⟩ hx hb hr hlocks ⟨rfl, (by unfold r_before; rw [if_pos c_8, if_neg c_21]; unfold r_bef; rw [if_neg c_65, if_neg c_70, if_neg c_83])⟩ (hP.part [0, 1] rfl) (hK.sub [0] rfl) (hD.part [0, 1] (by decide) rfl) hS (by decide) (by decide) dX4_putBefore_91
set_option maxHeartbeats 4000000 in
set_option maxRecDepth 100000 in
theorem c_joinCodes (l : Launch) (D : va_G) (sz : Nat) (r rc : Nat) (cR : ClassId) (f : Nat → Int32) (n z : Int32) (po : va_W) (j : Nat) (q : Nat) (N : Nat) (g : Nat → Int32) (hgc : po[j]? = some (q, .inl (cR, N, .inl g))) (hN : 1 ≤ N ∧ N ≤ 512) (k : Int32) (hn : r_ok n) : cM l yX4_joinCodes (.code yX4_joinCodes cX4_joinCodes 4 none) 18 550 0 0 [.ref r, .ref q, .int k] D [(cR, .int)] ([(r, .inr (3, [.ref rc, .int n, .int z])), (rc, .inl (cR, 512, .inl f))] ++ po) sz (S := (Nat → Int32) × Int32 × Int32) (fun v u => v = none ∧ r_joinCodes g (nI N) k f n z = (u.1, u.2.1, u.2.2)) (fun u => ([(r, .inr (3, [.ref rc, .int u.2.1, .int u.2.2])), (rc, .inl (cR, 512, .inl u.1))] ++ po)) (fun u => [(cR, .int)]) := by
  refine cM_of (by decide) (Nat.le_of_ble_eq_true rfl) ?_
  intro p e s m below meth c ls hF hsz hP hK hD hE hZ hA hl
  obtain ⟨hx, hb, hr, hml, hown, hlocks, hnm, htb, hts⟩ := hF
  have hown : s.vm.findClass RX4 = some m.cls := hown
  have hl : lv_has ls 4 [(0, .ref r), (1, .ref q), (2, .int k)] := hl
  have hS : va_S (va_A ([(r, .inr (3, [.ref rc, .int n, .int z])), (rc, .inl (cR, 512, .inl f))] ++ po) sz) s.heap s.heap [] := va_S.rf
  refine lv_iload_n hx hb dX4_joinCodes_0 rfl (lv_at hl 2 rfl) ?_
  refine lv_iconst (v := 1) hx hb dX4_joinCodes_1 (by decide) ?_
  refine lv_icmp_lt (tgt := 18) hx hb dX4_joinCodes_2 (by decide) (fun c_2 => ?_) (fun c_2 => ?_)
  · exact ck_vret ⟨f, n, z⟩ hx hb hr hlocks ⟨rfl, (by unfold r_joinCodes; rw [if_pos c_2] <;> first | rfl | exact rfl)⟩ (hP.part [0, 1] rfl) (hK.sub [0] rfl) (hD.part [0, 1] (by decide) rfl) hS (by decide) (by decide) dX4_joinCodes_18
  · refine lv_iload_n hx hb dX4_joinCodes_5 rfl (lv_at hl 2 rfl) ?_
    refine lv_aload_n hx hb dX4_joinCodes_6 rfl (lv_at hl 1 rfl) ?_
    refine va_alen hx hb hK hP (j + 2) 0 hgc rfl (v := nI N) rfl dX4_joinCodes_7 ?_
    refine lv_icmp_gt (tgt := 18) hx hb dX4_joinCodes_8 (by decide) (fun c_8 => ?_) (fun c_8 => ?_)
    · exact ck_vret ⟨f, n, z⟩ hx hb hr hlocks ⟨rfl, (by unfold r_joinCodes; rw [if_neg c_2, if_pos c_8] <;> first | rfl | exact rfl)⟩ (hP.part [0, 1] rfl) (hK.sub [0] rfl) (hD.part [0, 1] (by decide) rfl) hS (by decide) (by decide) dX4_joinCodes_18
    · refine lv_aload_n hx hb dX4_joinCodes_11 rfl (lv_at hl 1 rfl) ?_
      refine lv_iconst (v := 0) hx hb dX4_joinCodes_12 (by decide) ?_
      refine va_iald hx hb hK hP (j + 2) 0 hgc rfl (g_in0 hN.1) dX4_joinCodes_13 ?_
      refine ck_top (y := g ((0 : Int32).toNatClampNeg)) rfl ?_
      refine lv_iconst (v := 3) hx hb dX4_joinCodes_14 (by decide) ?_
      refine lv_icmp_ne (tgt := 19) hx hb dX4_joinCodes_15 (by decide) (fun c_15 => ?_) (fun c_15 => ?_)
      · refine lv_iload_n hx hb dX4_joinCodes_19 rfl (lv_at hl 2 rfl) ?_
        refine lv_iconst (v := 2) hx hb dX4_joinCodes_20 (by decide) ?_
        refine lv_icmp_ne (tgt := 43) hx hb dX4_joinCodes_21 (by decide) (fun c_21 => ?_) (fun c_21 => ?_)
        · refine lv_iconst (v := 0) hx hb dX4_joinCodes_43 (by decide) ?_
          refine lv_istore_n (lv' := [(3, .int 0), (0, .ref r), (1, .ref q), (2, .int k)]) hx hb dX4_joinCodes_44 rfl hl (by decide) rfl (fun ls hl => ?_)
          refine lv_iload_n hx hb dX4_joinCodes_45 rfl (lv_at hl 0 rfl) ?_
          refine lv_if_ne (tgt := 56) hx hb dX4_joinCodes_46 (by decide) (fun c9 => absurd (by decide) c9) (fun _ => ?_)
          refine lv_aload_n hx hb dX4_joinCodes_49 rfl (lv_at hl 1 rfl) ?_
          refine ck_runQ (wr := []) (va_runV (C := RX4) (As := []) (rest := []) ⟨hx, hb, hml, hown, hts⟩ (c_isNT l D s.heap.size r rc cR f n z) (cw_V (n := 0) hts tw_2_161 tw_2_163 tw_s16 tw_1_3 tw_2_164 (by decide +kernel) ⟨by decide, by decide⟩) ⟨pre.blind, va_recv (q := (RX4, TX4, 3)) hK hP (ci := 3) (q0 := 0) rfl rfl, fun U hU hW => ⟨rfl, pre.of (wc := [(r, .inr (3, [.ref rc, .int n, .int z])), (rc, .inl (cR, 512, .inl f))]) (tysc := [(cR, .int)]) (tk := [0]) hP.left hD.left hK hS hA hE hZ [0, 1] (by decide) rfl rfl rfl U hU hW⟩⟩ rfl rfl hl.1 rfl (lv_room (Nat.le_of_ble_eq_true rfl)) dX4_joinCodes_50 ⟨by decide, by decide⟩) hP hD hK hS hA [0, 1] [] rfl rfl (by decide) (by decide) (fun v u H locs hw hP hD hK9 hS => ?_)
          have hw : v = some (.int (r_isNT f z)) := hw
          subst hw
          have hP : va_P D vwCl ([(r, .inr (3, [.ref rc, .int n, .int z])), (rc, .inl (cR, 512, .inl f))] ++ po) H := hP
          have hD : va_D _ ([(r, .inr (3, [.ref rc, .int n, .int z])), (rc, .inl (cR, 512, .inl f))] ++ po) := hD
          refine W.eq (g2 := F0 m 53 ls [.int (r_isNT f z)]) rfl ?_
          refine lv_if_eq (tgt := 63) hx hb dX4_joinCodes_53 (by decide) (fun c_53 => ?_) (fun c_53 => ?_)
          · refine lv_aload_n hx hb dX4_joinCodes_63 rfl (lv_at hl 1 rfl) ?_
            refine ck_runQ (wr := []) (va_runV (C := RX4) (As := []) (rest := []) ⟨hx, hb, hml, hown, hts⟩ (c_isTrue l D H.size r rc cR f n z) (cw_V (n := 0) hts tw_2_169 tw_2_171 tw_s18 tw_1_3 tw_2_172 (by decide +kernel) ⟨by decide, by decide⟩) ⟨pre.blind, va_recv (q := (RX4, TX4, 3)) hK hP (ci := 3) (q0 := 0) rfl rfl, fun U hU hW => ⟨rfl, pre.of (wc := [(r, .inr (3, [.ref rc, .int n, .int z])), (rc, .inl (cR, 512, .inl f))]) (tysc := [(cR, .int)]) (tk := [0]) hP.left hD.left hK hS hA hE hZ [0, 1] (by decide) rfl rfl rfl U hU hW⟩⟩ rfl rfl hl.1 rfl (lv_room (Nat.le_of_ble_eq_true rfl)) dX4_joinCodes_64 ⟨by decide, by decide⟩) hP hD hK hS hA [0, 1] [] rfl rfl (by decide) (by decide) (fun v u H locs hw hP hD hK9 hS => ?_)
            have hw : v = some (.int (r_isTrue f z)) := hw
            subst hw
            have hP : va_P D vwCl ([(r, .inr (3, [.ref rc, .int n, .int z])), (rc, .inl (cR, 512, .inl f))] ++ po) H := hP
            have hD : va_D _ ([(r, .inr (3, [.ref rc, .int n, .int z])), (rc, .inl (cR, 512, .inl f))] ++ po) := hD
            refine W.eq (g2 := F0 m 67 ls [.int (r_isTrue f z)]) rfl ?_
            refine lv_if_eq (tgt := 79) hx hb dX4_joinCodes_67 (by decide) (fun c_67 => ?_) (fun c_67 => ?_)
            · refine lv_aload_n hx hb dX4_joinCodes_79 rfl (lv_at hl 1 rfl) ?_
              refine va_get (ci := 3) (v := .int z) (C := RX4) (T := TX4) (N := 3) hx hb hts inG_X4 hown hK hP 0 rfl rfl 2 (by decide) (hts _ tw_1_63) (fun _ h9 => h9) rfl dX4_joinCodes_80 ?_
              refine lv_if_ne (tgt := 92) hx hb dX4_joinCodes_83 (by decide) (fun c_83 => ?_) (fun c_83 => ?_)
              · exact ck_vret ⟨f, n, z⟩ hx hb hr hlocks ⟨rfl, (by unfold r_joinCodes; rw [if_neg c_2, if_neg c_8, if_neg c_15, if_pos (show r_fnt g k = 0 from by unfold r_fnt; rw [if_neg c_21]; try decide), if_pos c_53, if_pos c_67, if_neg c_83] <;> first | rfl | exact rfl)⟩ (hP.part [0, 1] rfl) (hK.sub [0] rfl) (hD.part [0, 1] (by decide) rfl) hS (by decide) (by decide) dX4_joinCodes_92
              · refine lv_aload_n hx hb dX4_joinCodes_86 rfl (lv_at hl 1 rfl) ?_
                refine lv_aload_n hx hb dX4_joinCodes_87 rfl (lv_at hl 2 rfl) ?_
                refine lv_iload_n hx hb dX4_joinCodes_88 rfl (lv_at hl 3 rfl) ?_
                have hP : va_P D vwCl ([(r, .inr (3, [.ref rc, .int n, .int z])), (rc, .inl (cR, 512, .inl f))] ++ po) H := hP
                have hD : va_D _ ([(r, .inr (3, [.ref rc, .int n, .int z])), (rc, .inl (cR, 512, .inl f))] ++ po) := hD
                refine ck_runP (wr := []) (rx := fun u => [(r, .inr (3, [.ref rc, .int u.2.1, .int u.2.2])), (rc, .inl (cR, 512, .inl u.1))]) (pl1 := fun u => po) (va_runV (C := RX4) (As := [.ref q, .int k]) (rest := []) ⟨hx, hb, hml, hown, hts⟩ (c_before l D H.size r rc cR f n z po j q N g hgc hN k ((k_ok hN.2 c_2 c_8).1) ((k_ok hN.2 c_2 c_8).2) hn) (cw_V (n := 2) hts tw_2_173 tw_2_175 tw_s19 tw_1_3 tw_2_176 (by decide +kernel) ⟨by decide, by decide⟩) ⟨pre.blind, va_recv (q := (RX4, TX4, 3)) hK hP (ci := 3) (q0 := 0) rfl rfl, fun U hU hW => ⟨rfl, pre.ofP (cx := [(r, .inr (3, [.ref rc, .int n, .int z])), (rc, .inl (cR, 512, .inl f))]) (pl := po) (tysc := [(cR, .int)]) (tk := [0]) hP hD hK hS hA hE hZ [0, 1] (by decide) rfl rfl U hU hW⟩⟩ rfl rfl hl.1 rfl (lv_room (Nat.le_of_ble_eq_true rfl)) dX4_joinCodes_89 ⟨by decide, by decide⟩) hP hD hK hS hA (fun _ => rfl) [0, 1] [] rfl rfl (by decide) (by decide) (fun v u H locs hw hP hD hK9 hS => ?_)
                obtain ⟨f1_1, n1_2, z1_3⟩ := u
                have hw : v = none ∧ r_before g k f n z = (f1_1, n1_2, z1_3) := hw
                obtain ⟨rfl, hq_4⟩ := hw
                have hP : va_P D vwCl ([(r, .inr (3, [.ref rc, .int n1_2, .int z1_3])), (rc, .inl (cR, 512, .inl f1_1))] ++ po) H := hP
                have hD : va_D _ ([(r, .inr (3, [.ref rc, .int n1_2, .int z1_3])), (rc, .inl (cR, 512, .inl f1_1))] ++ po) := hD
                refine W.eq (g2 := F0 m 92 ls []) rfl ?_
                exact ck_vret ⟨f1_1, n1_2, z1_3⟩ hx hb hr hlocks ⟨rfl, (by unfold r_joinCodes; rw [if_neg c_2, if_neg c_8, if_neg c_15, if_pos (show r_fnt g k = 0 from by unfold r_fnt; rw [if_neg c_21]; try decide), if_pos c_53, if_pos c_67, if_pos c_83] <;> first | rfl | exact hq_4)⟩ (hP.part [0, 1] rfl) (hK.sub [0] rfl) (hD.part [0, 1] (by decide) rfl) hS (by decide) (by decide) dX4_joinCodes_92
            · refine lv_aload_n hx hb dX4_joinCodes_70 rfl (lv_at hl 1 rfl) ?_
              refine lv_aload_n hx hb dX4_joinCodes_71 rfl (lv_at hl 2 rfl) ?_
              refine lv_iload_n hx hb dX4_joinCodes_72 rfl (lv_at hl 3 rfl) ?_
              have hP : va_P D vwCl ([(r, .inr (3, [.ref rc, .int n, .int z])), (rc, .inl (cR, 512, .inl f))] ++ po) H := hP
              have hD : va_D _ ([(r, .inr (3, [.ref rc, .int n, .int z])), (rc, .inl (cR, 512, .inl f))] ++ po) := hD
              refine ck_runP (wr := []) (rx := fun u => [(r, .inr (3, [.ref rc, .int u.2.1, .int u.2.2])), (rc, .inl (cR, 512, .inl u.1))]) (pl1 := fun u => po) (va_runV (C := RX4) (As := [.ref q, .int k]) (rest := []) ⟨hx, hb, hml, hown, hts⟩ (c_copy l D H.size r rc cR f n z po j q N g hgc hN k hn) (cw_V (n := 2) hts tw_2_136 tw_2_138 tw_s12 tw_1_3 tw_2_139 (by decide +kernel) ⟨by decide, by decide⟩) ⟨pre.blind, va_recv (q := (RX4, TX4, 3)) hK hP (ci := 3) (q0 := 0) rfl rfl, fun U hU hW => ⟨rfl, pre.ofP (cx := [(r, .inr (3, [.ref rc, .int n, .int z])), (rc, .inl (cR, 512, .inl f))]) (pl := po) (tysc := [(cR, .int)]) (tk := [0]) hP hD hK hS hA hE hZ [0, 1] (by decide) rfl rfl U hU hW⟩⟩ rfl rfl hl.1 rfl (lv_room (Nat.le_of_ble_eq_true rfl)) dX4_joinCodes_73 ⟨by decide, by decide⟩) hP hD hK hS hA (fun _ => rfl) [0, 1] [] rfl rfl (by decide) (by decide) (fun v u H locs hw hP hD hK9 hS => ?_)
              obtain ⟨f1_5, n1_6, z1_7⟩ := u
              have hw : v = none ∧ r_copy g (nI N) k f n z = (f1_5, n1_6, z1_7) := hw
              obtain ⟨rfl, hq_8⟩ := hw
              have hP : va_P D vwCl ([(r, .inr (3, [.ref rc, .int n1_6, .int z1_7])), (rc, .inl (cR, 512, .inl f1_5))] ++ po) H := hP
              have hD : va_D _ ([(r, .inr (3, [.ref rc, .int n1_6, .int z1_7])), (rc, .inl (cR, 512, .inl f1_5))] ++ po) := hD
              refine W.eq (g2 := F0 m 76 ls []) rfl ?_
              refine lv_goto (tgt := 92) hx hb dX4_joinCodes_76 (by decide) ?_
              exact ck_vret ⟨f1_5, n1_6, z1_7⟩ hx hb hr hlocks ⟨rfl, (by unfold r_joinCodes; rw [if_neg c_2, if_neg c_8, if_neg c_15, if_pos (show r_fnt g k = 0 from by unfold r_fnt; rw [if_neg c_21]; try decide), if_pos c_53, if_neg c_67] <;> first | rfl | exact hq_8)⟩ (hP.part [0, 1] rfl) (hK.sub [0] rfl) (hD.part [0, 1] (by decide) rfl) hS (by decide) (by decide) dX4_joinCodes_92
          · refine lv_aload_n hx hb dX4_joinCodes_56 rfl (lv_at hl 1 rfl) ?_
            refine ck_runQ (wr := []) (va_runV (C := RX4) (As := []) (rest := []) ⟨hx, hb, hml, hown, hts⟩ (r_setNotTrue l D H.size r rc cR f n z) (cw_V (n := 0) hts tw_2_165 tw_2_167 tw_s17 tw_1_3 tw_2_168 (by decide +kernel) ⟨by decide, by decide⟩) ⟨pre.blind, va_recv (q := (RX4, TX4, 3)) hK hP (ci := 3) (q0 := 0) rfl rfl, fun U hU hW => ⟨rfl, pre.of (wc := [(r, .inr (3, [.ref rc, .int n, .int z])), (rc, .inl (cR, 512, .inl f))]) (tysc := [(cR, .int)]) (tk := [0]) hP.left hD.left hK hS hA hE hZ [0, 1] (by decide) rfl rfl rfl U hU hW⟩⟩ rfl rfl hl.1 rfl (lv_room (Nat.le_of_ble_eq_true rfl)) dX4_joinCodes_57 ⟨by decide, by decide⟩) hP hD hK hS hA [0, 1] [] rfl rfl (by decide) (by decide) (fun v u H locs hw hP hD hK9 hS => ?_)
            have hw : v = none := hw
            subst hw
            have hP : va_P D vwCl ([(r, .inr (3, [.ref rc, .int 2, .int 0])), (rc, .inl (cR, 512, .inl (upd (upd f ((0 : Int32).toNatClampNeg) 6) ((1 : Int32).toNatClampNeg) 3)))] ++ po) H := hP
            have hD : va_D _ ([(r, .inr (3, [.ref rc, .int 2, .int 0])), (rc, .inl (cR, 512, .inl (upd (upd f ((0 : Int32).toNatClampNeg) 6) ((1 : Int32).toNatClampNeg) 3)))] ++ po) := hD
            refine W.eq (g2 := F0 m 60 ls []) rfl ?_
            refine lv_goto (tgt := 92) hx hb dX4_joinCodes_60 (by decide) ?_
            exact ck_vret ⟨upd (upd f ((0 : Int32).toNatClampNeg) 6) ((1 : Int32).toNatClampNeg) 3, 2, 0⟩ hx hb hr hlocks ⟨rfl, (by unfold r_joinCodes; rw [if_neg c_2, if_neg c_8, if_neg c_15, if_pos (show r_fnt g k = 0 from by unfold r_fnt; rw [if_neg c_21]; try decide), if_neg c_53] <;> first | rfl | exact rfl)⟩ (hP.part [0, 1] rfl) (hK.sub [0] rfl) (hD.part [0, 1] (by decide) rfl) hS (by decide) (by decide) dX4_joinCodes_92
        · refine lv_aload_n hx hb dX4_joinCodes_24 rfl (lv_at hl 1 rfl) ?_
          refine lv_iconst (v := 0) hx hb dX4_joinCodes_25 (by decide) ?_
          refine va_iald hx hb hK hP (j + 2) 0 hgc rfl (g_in0 hN.1) dX4_joinCodes_26 ?_
          refine ck_top (y := g ((0 : Int32).toNatClampNeg)) rfl ?_
          refine lv_bipush (v := 6) hx hb dX4_joinCodes_27 (by decide) ?_
          refine lv_icmp_ne (tgt := 43) hx hb dX4_joinCodes_29 (by decide) (fun c_29 => ?_) (fun c_29 => ?_)
          · refine lv_iconst (v := 0) hx hb dX4_joinCodes_43 (by decide) ?_
            refine lv_istore_n (lv' := [(3, .int 0), (0, .ref r), (1, .ref q), (2, .int k)]) hx hb dX4_joinCodes_44 rfl hl (by decide) rfl (fun ls hl => ?_)
            refine lv_iload_n hx hb dX4_joinCodes_45 rfl (lv_at hl 0 rfl) ?_
            refine lv_if_ne (tgt := 56) hx hb dX4_joinCodes_46 (by decide) (fun c9 => absurd (by decide) c9) (fun _ => ?_)
            refine lv_aload_n hx hb dX4_joinCodes_49 rfl (lv_at hl 1 rfl) ?_
            refine ck_runQ (wr := []) (va_runV (C := RX4) (As := []) (rest := []) ⟨hx, hb, hml, hown, hts⟩ (c_isNT l D s.heap.size r rc cR f n z) (cw_V (n := 0) hts tw_2_161 tw_2_163 tw_s16 tw_1_3 tw_2_164 (by decide +kernel) ⟨by decide, by decide⟩) ⟨pre.blind, va_recv (q := (RX4, TX4, 3)) hK hP (ci := 3) (q0 := 0) rfl rfl, fun U hU hW => ⟨rfl, pre.of (wc := [(r, .inr (3, [.ref rc, .int n, .int z])), (rc, .inl (cR, 512, .inl f))]) (tysc := [(cR, .int)]) (tk := [0]) hP.left hD.left hK hS hA hE hZ [0, 1] (by decide) rfl rfl rfl U hU hW⟩⟩ rfl rfl hl.1 rfl (lv_room (Nat.le_of_ble_eq_true rfl)) dX4_joinCodes_50 ⟨by decide, by decide⟩) hP hD hK hS hA [0, 1] [] rfl rfl (by decide) (by decide) (fun v u H locs hw hP hD hK9 hS => ?_)
            have hw : v = some (.int (r_isNT f z)) := hw
            subst hw
            have hP : va_P D vwCl ([(r, .inr (3, [.ref rc, .int n, .int z])), (rc, .inl (cR, 512, .inl f))] ++ po) H := hP
            have hD : va_D _ ([(r, .inr (3, [.ref rc, .int n, .int z])), (rc, .inl (cR, 512, .inl f))] ++ po) := hD
            refine W.eq (g2 := F0 m 53 ls [.int (r_isNT f z)]) rfl ?_
            refine lv_if_eq (tgt := 63) hx hb dX4_joinCodes_53 (by decide) (fun c_53 => ?_) (fun c_53 => ?_)
            · refine lv_aload_n hx hb dX4_joinCodes_63 rfl (lv_at hl 1 rfl) ?_
              refine ck_runQ (wr := []) (va_runV (C := RX4) (As := []) (rest := []) ⟨hx, hb, hml, hown, hts⟩ (c_isTrue l D H.size r rc cR f n z) (cw_V (n := 0) hts tw_2_169 tw_2_171 tw_s18 tw_1_3 tw_2_172 (by decide +kernel) ⟨by decide, by decide⟩) ⟨pre.blind, va_recv (q := (RX4, TX4, 3)) hK hP (ci := 3) (q0 := 0) rfl rfl, fun U hU hW => ⟨rfl, pre.of (wc := [(r, .inr (3, [.ref rc, .int n, .int z])), (rc, .inl (cR, 512, .inl f))]) (tysc := [(cR, .int)]) (tk := [0]) hP.left hD.left hK hS hA hE hZ [0, 1] (by decide) rfl rfl rfl U hU hW⟩⟩ rfl rfl hl.1 rfl (lv_room (Nat.le_of_ble_eq_true rfl)) dX4_joinCodes_64 ⟨by decide, by decide⟩) hP hD hK hS hA [0, 1] [] rfl rfl (by decide) (by decide) (fun v u H locs hw hP hD hK9 hS => ?_)
              have hw : v = some (.int (r_isTrue f z)) := hw
              subst hw
              have hP : va_P D vwCl ([(r, .inr (3, [.ref rc, .int n, .int z])), (rc, .inl (cR, 512, .inl f))] ++ po) H := hP
              have hD : va_D _ ([(r, .inr (3, [.ref rc, .int n, .int z])), (rc, .inl (cR, 512, .inl f))] ++ po) := hD
              refine W.eq (g2 := F0 m 67 ls [.int (r_isTrue f z)]) rfl ?_
              refine lv_if_eq (tgt := 79) hx hb dX4_joinCodes_67 (by decide) (fun c_67 => ?_) (fun c_67 => ?_)
              · refine lv_aload_n hx hb dX4_joinCodes_79 rfl (lv_at hl 1 rfl) ?_
                refine va_get (ci := 3) (v := .int z) (C := RX4) (T := TX4) (N := 3) hx hb hts inG_X4 hown hK hP 0 rfl rfl 2 (by decide) (hts _ tw_1_63) (fun _ h9 => h9) rfl dX4_joinCodes_80 ?_
                refine lv_if_ne (tgt := 92) hx hb dX4_joinCodes_83 (by decide) (fun c_83 => ?_) (fun c_83 => ?_)
                · exact ck_vret ⟨f, n, z⟩ hx hb hr hlocks ⟨rfl, (by unfold r_joinCodes; rw [if_neg c_2, if_neg c_8, if_neg c_15, if_pos (show r_fnt g k = 0 from by unfold r_fnt; rw [if_pos c_21, if_neg c_29]; try decide), if_pos c_53, if_pos c_67, if_neg c_83] <;> first | rfl | exact rfl)⟩ (hP.part [0, 1] rfl) (hK.sub [0] rfl) (hD.part [0, 1] (by decide) rfl) hS (by decide) (by decide) dX4_joinCodes_92
                · refine lv_aload_n hx hb dX4_joinCodes_86 rfl (lv_at hl 1 rfl) ?_
                  refine lv_aload_n hx hb dX4_joinCodes_87 rfl (lv_at hl 2 rfl) ?_
                  refine lv_iload_n hx hb dX4_joinCodes_88 rfl (lv_at hl 3 rfl) ?_
                  have hP : va_P D vwCl ([(r, .inr (3, [.ref rc, .int n, .int z])), (rc, .inl (cR, 512, .inl f))] ++ po) H := hP
                  have hD : va_D _ ([(r, .inr (3, [.ref rc, .int n, .int z])), (rc, .inl (cR, 512, .inl f))] ++ po) := hD
                  refine ck_runP (wr := []) (rx := fun u => [(r, .inr (3, [.ref rc, .int u.2.1, .int u.2.2])), (rc, .inl (cR, 512, .inl u.1))]) (pl1 := fun u => po) (va_runV (C := RX4) (As := [.ref q, .int k]) (rest := []) ⟨hx, hb, hml, hown, hts⟩ (c_before l D H.size r rc cR f n z po j q N g hgc hN k ((k_ok hN.2 c_2 c_8).1) ((k_ok hN.2 c_2 c_8).2) hn) (cw_V (n := 2) hts tw_2_173 tw_2_175 tw_s19 tw_1_3 tw_2_176 (by decide +kernel) ⟨by decide, by decide⟩) ⟨pre.blind, va_recv (q := (RX4, TX4, 3)) hK hP (ci := 3) (q0 := 0) rfl rfl, fun U hU hW => ⟨rfl, pre.ofP (cx := [(r, .inr (3, [.ref rc, .int n, .int z])), (rc, .inl (cR, 512, .inl f))]) (pl := po) (tysc := [(cR, .int)]) (tk := [0]) hP hD hK hS hA hE hZ [0, 1] (by decide) rfl rfl U hU hW⟩⟩ rfl rfl hl.1 rfl (lv_room (Nat.le_of_ble_eq_true rfl)) dX4_joinCodes_89 ⟨by decide, by decide⟩) hP hD hK hS hA (fun _ => rfl) [0, 1] [] rfl rfl (by decide) (by decide) (fun v u H locs hw hP hD hK9 hS => ?_)
                  obtain ⟨f1_9, n1_10, z1_11⟩ := u
                  have hw : v = none ∧ r_before g k f n z = (f1_9, n1_10, z1_11) := hw
                  obtain ⟨rfl, hq_12⟩ := hw
                  have hP : va_P D vwCl ([(r, .inr (3, [.ref rc, .int n1_10, .int z1_11])), (rc, .inl (cR, 512, .inl f1_9))] ++ po) H := hP
                  have hD : va_D _ ([(r, .inr (3, [.ref rc, .int n1_10, .int z1_11])), (rc, .inl (cR, 512, .inl f1_9))] ++ po) := hD
                  refine W.eq (g2 := F0 m 92 ls []) rfl ?_
                  exact ck_vret ⟨f1_9, n1_10, z1_11⟩ hx hb hr hlocks ⟨rfl, (by unfold r_joinCodes; rw [if_neg c_2, if_neg c_8, if_neg c_15, if_pos (show r_fnt g k = 0 from by unfold r_fnt; rw [if_pos c_21, if_neg c_29]; try decide), if_pos c_53, if_pos c_67, if_pos c_83] <;> first | rfl | exact hq_12)⟩ (hP.part [0, 1] rfl) (hK.sub [0] rfl) (hD.part [0, 1] (by decide) rfl) hS (by decide) (by decide) dX4_joinCodes_92
              · refine lv_aload_n hx hb dX4_joinCodes_70 rfl (lv_at hl 1 rfl) ?_
                refine lv_aload_n hx hb dX4_joinCodes_71 rfl (lv_at hl 2 rfl) ?_
                refine lv_iload_n hx hb dX4_joinCodes_72 rfl (lv_at hl 3 rfl) ?_
                have hP : va_P D vwCl ([(r, .inr (3, [.ref rc, .int n, .int z])), (rc, .inl (cR, 512, .inl f))] ++ po) H := hP
                have hD : va_D _ ([(r, .inr (3, [.ref rc, .int n, .int z])), (rc, .inl (cR, 512, .inl f))] ++ po) := hD
                refine ck_runP (wr := []) (rx := fun u => [(r, .inr (3, [.ref rc, .int u.2.1, .int u.2.2])), (rc, .inl (cR, 512, .inl u.1))]) (pl1 := fun u => po) (va_runV (C := RX4) (As := [.ref q, .int k]) (rest := []) ⟨hx, hb, hml, hown, hts⟩ (c_copy l D H.size r rc cR f n z po j q N g hgc hN k hn) (cw_V (n := 2) hts tw_2_136 tw_2_138 tw_s12 tw_1_3 tw_2_139 (by decide +kernel) ⟨by decide, by decide⟩) ⟨pre.blind, va_recv (q := (RX4, TX4, 3)) hK hP (ci := 3) (q0 := 0) rfl rfl, fun U hU hW => ⟨rfl, pre.ofP (cx := [(r, .inr (3, [.ref rc, .int n, .int z])), (rc, .inl (cR, 512, .inl f))]) (pl := po) (tysc := [(cR, .int)]) (tk := [0]) hP hD hK hS hA hE hZ [0, 1] (by decide) rfl rfl U hU hW⟩⟩ rfl rfl hl.1 rfl (lv_room (Nat.le_of_ble_eq_true rfl)) dX4_joinCodes_73 ⟨by decide, by decide⟩) hP hD hK hS hA (fun _ => rfl) [0, 1] [] rfl rfl (by decide) (by decide) (fun v u H locs hw hP hD hK9 hS => ?_)
                obtain ⟨f1_13, n1_14, z1_15⟩ := u
                have hw : v = none ∧ r_copy g (nI N) k f n z = (f1_13, n1_14, z1_15) := hw
                obtain ⟨rfl, hq_16⟩ := hw
                have hP : va_P D vwCl ([(r, .inr (3, [.ref rc, .int n1_14, .int z1_15])), (rc, .inl (cR, 512, .inl f1_13))] ++ po) H := hP
                have hD : va_D _ ([(r, .inr (3, [.ref rc, .int n1_14, .int z1_15])), (rc, .inl (cR, 512, .inl f1_13))] ++ po) := hD
                refine W.eq (g2 := F0 m 76 ls []) rfl ?_
                refine lv_goto (tgt := 92) hx hb dX4_joinCodes_76 (by decide) ?_
                exact ck_vret ⟨f1_13, n1_14, z1_15⟩ hx hb hr hlocks ⟨rfl, (by unfold r_joinCodes; rw [if_neg c_2, if_neg c_8, if_neg c_15, if_pos (show r_fnt g k = 0 from by unfold r_fnt; rw [if_pos c_21, if_neg c_29]; try decide), if_pos c_53, if_neg c_67] <;> first | rfl | exact hq_16)⟩ (hP.part [0, 1] rfl) (hK.sub [0] rfl) (hD.part [0, 1] (by decide) rfl) hS (by decide) (by decide) dX4_joinCodes_92
            · refine lv_aload_n hx hb dX4_joinCodes_56 rfl (lv_at hl 1 rfl) ?_
              refine ck_runQ (wr := []) (va_runV (C := RX4) (As := []) (rest := []) ⟨hx, hb, hml, hown, hts⟩ (r_setNotTrue l D H.size r rc cR f n z) (cw_V (n := 0) hts tw_2_165 tw_2_167 tw_s17 tw_1_3 tw_2_168 (by decide +kernel) ⟨by decide, by decide⟩) ⟨pre.blind, va_recv (q := (RX4, TX4, 3)) hK hP (ci := 3) (q0 := 0) rfl rfl, fun U hU hW => ⟨rfl, pre.of (wc := [(r, .inr (3, [.ref rc, .int n, .int z])), (rc, .inl (cR, 512, .inl f))]) (tysc := [(cR, .int)]) (tk := [0]) hP.left hD.left hK hS hA hE hZ [0, 1] (by decide) rfl rfl rfl U hU hW⟩⟩ rfl rfl hl.1 rfl (lv_room (Nat.le_of_ble_eq_true rfl)) dX4_joinCodes_57 ⟨by decide, by decide⟩) hP hD hK hS hA [0, 1] [] rfl rfl (by decide) (by decide) (fun v u H locs hw hP hD hK9 hS => ?_)
              have hw : v = none := hw
              subst hw
              have hP : va_P D vwCl ([(r, .inr (3, [.ref rc, .int 2, .int 0])), (rc, .inl (cR, 512, .inl (upd (upd f ((0 : Int32).toNatClampNeg) 6) ((1 : Int32).toNatClampNeg) 3)))] ++ po) H := hP
              have hD : va_D _ ([(r, .inr (3, [.ref rc, .int 2, .int 0])), (rc, .inl (cR, 512, .inl (upd (upd f ((0 : Int32).toNatClampNeg) 6) ((1 : Int32).toNatClampNeg) 3)))] ++ po) := hD
              refine W.eq (g2 := F0 m 60 ls []) rfl ?_
              refine lv_goto (tgt := 92) hx hb dX4_joinCodes_60 (by decide) ?_
              exact ck_vret ⟨upd (upd f ((0 : Int32).toNatClampNeg) 6) ((1 : Int32).toNatClampNeg) 3, 2, 0⟩ hx hb hr hlocks ⟨rfl, (by unfold r_joinCodes; rw [if_neg c_2, if_neg c_8, if_neg c_15, if_pos (show r_fnt g k = 0 from by unfold r_fnt; rw [if_pos c_21, if_neg c_29]; try decide), if_neg c_53] <;> first | rfl | exact rfl)⟩ (hP.part [0, 1] rfl) (hK.sub [0] rfl) (hD.part [0, 1] (by decide) rfl) hS (by decide) (by decide) dX4_joinCodes_92
          · refine lv_aload_n hx hb dX4_joinCodes_32 rfl (lv_at hl 1 rfl) ?_
            refine lv_iconst (v := 1) hx hb dX4_joinCodes_33 (by decide) ?_
            refine va_iald hx hb hK hP (j + 2) 0 hgc rfl (g_in1 (by have q := (k_ok hN.2 c_2 c_8).2; rw [c_21] at q; exact q)) dX4_joinCodes_34 ?_
            refine ck_top (y := g ((1 : Int32).toNatClampNeg)) rfl ?_
            refine lv_iconst (v := 3) hx hb dX4_joinCodes_35 (by decide) ?_
            refine lv_icmp_ne (tgt := 43) hx hb dX4_joinCodes_36 (by decide) (fun c_36 => ?_) (fun c_36 => ?_)
            · refine lv_iconst (v := 0) hx hb dX4_joinCodes_43 (by decide) ?_
              refine lv_istore_n (lv' := [(3, .int 0), (0, .ref r), (1, .ref q), (2, .int k)]) hx hb dX4_joinCodes_44 rfl hl (by decide) rfl (fun ls hl => ?_)
              refine lv_iload_n hx hb dX4_joinCodes_45 rfl (lv_at hl 0 rfl) ?_
              refine lv_if_ne (tgt := 56) hx hb dX4_joinCodes_46 (by decide) (fun c9 => absurd (by decide) c9) (fun _ => ?_)
              refine lv_aload_n hx hb dX4_joinCodes_49 rfl (lv_at hl 1 rfl) ?_
              refine ck_runQ (wr := []) (va_runV (C := RX4) (As := []) (rest := []) ⟨hx, hb, hml, hown, hts⟩ (c_isNT l D s.heap.size r rc cR f n z) (cw_V (n := 0) hts tw_2_161 tw_2_163 tw_s16 tw_1_3 tw_2_164 (by decide +kernel) ⟨by decide, by decide⟩) ⟨pre.blind, va_recv (q := (RX4, TX4, 3)) hK hP (ci := 3) (q0 := 0) rfl rfl, fun U hU hW => ⟨rfl, pre.of (wc := [(r, .inr (3, [.ref rc, .int n, .int z])), (rc, .inl (cR, 512, .inl f))]) (tysc := [(cR, .int)]) (tk := [0]) hP.left hD.left hK hS hA hE hZ [0, 1] (by decide) rfl rfl rfl U hU hW⟩⟩ rfl rfl hl.1 rfl (lv_room (Nat.le_of_ble_eq_true rfl)) dX4_joinCodes_50 ⟨by decide, by decide⟩) hP hD hK hS hA [0, 1] [] rfl rfl (by decide) (by decide) (fun v u H locs hw hP hD hK9 hS => ?_)
              have hw : v = some (.int (r_isNT f z)) := hw
              subst hw
              have hP : va_P D vwCl ([(r, .inr (3, [.ref rc, .int n, .int z])), (rc, .inl (cR, 512, .inl f))] ++ po) H := hP
              have hD : va_D _ ([(r, .inr (3, [.ref rc, .int n, .int z])), (rc, .inl (cR, 512, .inl f))] ++ po) := hD
              refine W.eq (g2 := F0 m 53 ls [.int (r_isNT f z)]) rfl ?_
              refine lv_if_eq (tgt := 63) hx hb dX4_joinCodes_53 (by decide) (fun c_53 => ?_) (fun c_53 => ?_)
              · refine lv_aload_n hx hb dX4_joinCodes_63 rfl (lv_at hl 1 rfl) ?_
                refine ck_runQ (wr := []) (va_runV (C := RX4) (As := []) (rest := []) ⟨hx, hb, hml, hown, hts⟩ (c_isTrue l D H.size r rc cR f n z) (cw_V (n := 0) hts tw_2_169 tw_2_171 tw_s18 tw_1_3 tw_2_172 (by decide +kernel) ⟨by decide, by decide⟩) ⟨pre.blind, va_recv (q := (RX4, TX4, 3)) hK hP (ci := 3) (q0 := 0) rfl rfl, fun U hU hW => ⟨rfl, pre.of (wc := [(r, .inr (3, [.ref rc, .int n, .int z])), (rc, .inl (cR, 512, .inl f))]) (tysc := [(cR, .int)]) (tk := [0]) hP.left hD.left hK hS hA hE hZ [0, 1] (by decide) rfl rfl rfl U hU hW⟩⟩ rfl rfl hl.1 rfl (lv_room (Nat.le_of_ble_eq_true rfl)) dX4_joinCodes_64 ⟨by decide, by decide⟩) hP hD hK hS hA [0, 1] [] rfl rfl (by decide) (by decide) (fun v u H locs hw hP hD hK9 hS => ?_)
                have hw : v = some (.int (r_isTrue f z)) := hw
                subst hw
                have hP : va_P D vwCl ([(r, .inr (3, [.ref rc, .int n, .int z])), (rc, .inl (cR, 512, .inl f))] ++ po) H := hP
                have hD : va_D _ ([(r, .inr (3, [.ref rc, .int n, .int z])), (rc, .inl (cR, 512, .inl f))] ++ po) := hD
                refine W.eq (g2 := F0 m 67 ls [.int (r_isTrue f z)]) rfl ?_
                refine lv_if_eq (tgt := 79) hx hb dX4_joinCodes_67 (by decide) (fun c_67 => ?_) (fun c_67 => ?_)
                · refine lv_aload_n hx hb dX4_joinCodes_79 rfl (lv_at hl 1 rfl) ?_
                  refine va_get (ci := 3) (v := .int z) (C := RX4) (T := TX4) (N := 3) hx hb hts inG_X4 hown hK hP 0 rfl rfl 2 (by decide) (hts _ tw_1_63) (fun _ h9 => h9) rfl dX4_joinCodes_80 ?_
                  refine lv_if_ne (tgt := 92) hx hb dX4_joinCodes_83 (by decide) (fun c_83 => ?_) (fun c_83 => ?_)
                  · exact ck_vret ⟨f, n, z⟩ hx hb hr hlocks ⟨rfl, (by unfold r_joinCodes; rw [if_neg c_2, if_neg c_8, if_neg c_15, if_pos (show r_fnt g k = 0 from by unfold r_fnt; rw [if_pos c_21, if_pos c_29, if_neg c_36]; try decide), if_pos c_53, if_pos c_67, if_neg c_83] <;> first | rfl | exact rfl)⟩ (hP.part [0, 1] rfl) (hK.sub [0] rfl) (hD.part [0, 1] (by decide) rfl) hS (by decide) (by decide) dX4_joinCodes_92
                  · refine lv_aload_n hx hb dX4_joinCodes_86 rfl (lv_at hl 1 rfl) ?_
                    refine lv_aload_n hx hb dX4_joinCodes_87 rfl (lv_at hl 2 rfl) ?_
                    refine lv_iload_n hx hb dX4_joinCodes_88 rfl (lv_at hl 3 rfl) ?_
                    have hP : va_P D vwCl ([(r, .inr (3, [.ref rc, .int n, .int z])), (rc, .inl (cR, 512, .inl f))] ++ po) H := hP
                    have hD : va_D _ ([(r, .inr (3, [.ref rc, .int n, .int z])), (rc, .inl (cR, 512, .inl f))] ++ po) := hD
                    refine ck_runP (wr := []) (rx := fun u => [(r, .inr (3, [.ref rc, .int u.2.1, .int u.2.2])), (rc, .inl (cR, 512, .inl u.1))]) (pl1 := fun u => po) (va_runV (C := RX4) (As := [.ref q, .int k]) (rest := []) ⟨hx, hb, hml, hown, hts⟩ (c_before l D H.size r rc cR f n z po j q N g hgc hN k ((k_ok hN.2 c_2 c_8).1) ((k_ok hN.2 c_2 c_8).2) hn) (cw_V (n := 2) hts tw_2_173 tw_2_175 tw_s19 tw_1_3 tw_2_176 (by decide +kernel) ⟨by decide, by decide⟩) ⟨pre.blind, va_recv (q := (RX4, TX4, 3)) hK hP (ci := 3) (q0 := 0) rfl rfl, fun U hU hW => ⟨rfl, pre.ofP (cx := [(r, .inr (3, [.ref rc, .int n, .int z])), (rc, .inl (cR, 512, .inl f))]) (pl := po) (tysc := [(cR, .int)]) (tk := [0]) hP hD hK hS hA hE hZ [0, 1] (by decide) rfl rfl U hU hW⟩⟩ rfl rfl hl.1 rfl (lv_room (Nat.le_of_ble_eq_true rfl)) dX4_joinCodes_89 ⟨by decide, by decide⟩) hP hD hK hS hA (fun _ => rfl) [0, 1] [] rfl rfl (by decide) (by decide) (fun v u H locs hw hP hD hK9 hS => ?_)
                    obtain ⟨f1_17, n1_18, z1_19⟩ := u
                    have hw : v = none ∧ r_before g k f n z = (f1_17, n1_18, z1_19) := hw
                    obtain ⟨rfl, hq_20⟩ := hw
                    have hP : va_P D vwCl ([(r, .inr (3, [.ref rc, .int n1_18, .int z1_19])), (rc, .inl (cR, 512, .inl f1_17))] ++ po) H := hP
                    have hD : va_D _ ([(r, .inr (3, [.ref rc, .int n1_18, .int z1_19])), (rc, .inl (cR, 512, .inl f1_17))] ++ po) := hD
                    refine W.eq (g2 := F0 m 92 ls []) rfl ?_
                    exact ck_vret ⟨f1_17, n1_18, z1_19⟩ hx hb hr hlocks ⟨rfl, (by unfold r_joinCodes; rw [if_neg c_2, if_neg c_8, if_neg c_15, if_pos (show r_fnt g k = 0 from by unfold r_fnt; rw [if_pos c_21, if_pos c_29, if_neg c_36]; try decide), if_pos c_53, if_pos c_67, if_pos c_83] <;> first | rfl | exact hq_20)⟩ (hP.part [0, 1] rfl) (hK.sub [0] rfl) (hD.part [0, 1] (by decide) rfl) hS (by decide) (by decide) dX4_joinCodes_92
                · refine lv_aload_n hx hb dX4_joinCodes_70 rfl (lv_at hl 1 rfl) ?_
                  refine lv_aload_n hx hb dX4_joinCodes_71 rfl (lv_at hl 2 rfl) ?_
                  refine lv_iload_n hx hb dX4_joinCodes_72 rfl (lv_at hl 3 rfl) ?_
                  have hP : va_P D vwCl ([(r, .inr (3, [.ref rc, .int n, .int z])), (rc, .inl (cR, 512, .inl f))] ++ po) H := hP
                  have hD : va_D _ ([(r, .inr (3, [.ref rc, .int n, .int z])), (rc, .inl (cR, 512, .inl f))] ++ po) := hD
                  refine ck_runP (wr := []) (rx := fun u => [(r, .inr (3, [.ref rc, .int u.2.1, .int u.2.2])), (rc, .inl (cR, 512, .inl u.1))]) (pl1 := fun u => po) (va_runV (C := RX4) (As := [.ref q, .int k]) (rest := []) ⟨hx, hb, hml, hown, hts⟩ (c_copy l D H.size r rc cR f n z po j q N g hgc hN k hn) (cw_V (n := 2) hts tw_2_136 tw_2_138 tw_s12 tw_1_3 tw_2_139 (by decide +kernel) ⟨by decide, by decide⟩) ⟨pre.blind, va_recv (q := (RX4, TX4, 3)) hK hP (ci := 3) (q0 := 0) rfl rfl, fun U hU hW => ⟨rfl, pre.ofP (cx := [(r, .inr (3, [.ref rc, .int n, .int z])), (rc, .inl (cR, 512, .inl f))]) (pl := po) (tysc := [(cR, .int)]) (tk := [0]) hP hD hK hS hA hE hZ [0, 1] (by decide) rfl rfl U hU hW⟩⟩ rfl rfl hl.1 rfl (lv_room (Nat.le_of_ble_eq_true rfl)) dX4_joinCodes_73 ⟨by decide, by decide⟩) hP hD hK hS hA (fun _ => rfl) [0, 1] [] rfl rfl (by decide) (by decide) (fun v u H locs hw hP hD hK9 hS => ?_)
                  obtain ⟨f1_21, n1_22, z1_23⟩ := u
                  have hw : v = none ∧ r_copy g (nI N) k f n z = (f1_21, n1_22, z1_23) := hw
                  obtain ⟨rfl, hq_24⟩ := hw
                  have hP : va_P D vwCl ([(r, .inr (3, [.ref rc, .int n1_22, .int z1_23])), (rc, .inl (cR, 512, .inl f1_21))] ++ po) H := hP
                  have hD : va_D _ ([(r, .inr (3, [.ref rc, .int n1_22, .int z1_23])), (rc, .inl (cR, 512, .inl f1_21))] ++ po) := hD
                  refine W.eq (g2 := F0 m 76 ls []) rfl ?_
                  refine lv_goto (tgt := 92) hx hb dX4_joinCodes_76 (by decide) ?_
                  exact ck_vret ⟨f1_21, n1_22, z1_23⟩ hx hb hr hlocks ⟨rfl, (by unfold r_joinCodes; rw [if_neg c_2, if_neg c_8, if_neg c_15, if_pos (show r_fnt g k = 0 from by unfold r_fnt; rw [if_pos c_21, if_pos c_29, if_neg c_36]; try decide), if_pos c_53, if_neg c_67] <;> first | rfl | exact hq_24)⟩ (hP.part [0, 1] rfl) (hK.sub [0] rfl) (hD.part [0, 1] (by decide) rfl) hS (by decide) (by decide) dX4_joinCodes_92
              · refine lv_aload_n hx hb dX4_joinCodes_56 rfl (lv_at hl 1 rfl) ?_
                refine ck_runQ (wr := []) (va_runV (C := RX4) (As := []) (rest := []) ⟨hx, hb, hml, hown, hts⟩ (r_setNotTrue l D H.size r rc cR f n z) (cw_V (n := 0) hts tw_2_165 tw_2_167 tw_s17 tw_1_3 tw_2_168 (by decide +kernel) ⟨by decide, by decide⟩) ⟨pre.blind, va_recv (q := (RX4, TX4, 3)) hK hP (ci := 3) (q0 := 0) rfl rfl, fun U hU hW => ⟨rfl, pre.of (wc := [(r, .inr (3, [.ref rc, .int n, .int z])), (rc, .inl (cR, 512, .inl f))]) (tysc := [(cR, .int)]) (tk := [0]) hP.left hD.left hK hS hA hE hZ [0, 1] (by decide) rfl rfl rfl U hU hW⟩⟩ rfl rfl hl.1 rfl (lv_room (Nat.le_of_ble_eq_true rfl)) dX4_joinCodes_57 ⟨by decide, by decide⟩) hP hD hK hS hA [0, 1] [] rfl rfl (by decide) (by decide) (fun v u H locs hw hP hD hK9 hS => ?_)
                have hw : v = none := hw
                subst hw
                have hP : va_P D vwCl ([(r, .inr (3, [.ref rc, .int 2, .int 0])), (rc, .inl (cR, 512, .inl (upd (upd f ((0 : Int32).toNatClampNeg) 6) ((1 : Int32).toNatClampNeg) 3)))] ++ po) H := hP
                have hD : va_D _ ([(r, .inr (3, [.ref rc, .int 2, .int 0])), (rc, .inl (cR, 512, .inl (upd (upd f ((0 : Int32).toNatClampNeg) 6) ((1 : Int32).toNatClampNeg) 3)))] ++ po) := hD
                refine W.eq (g2 := F0 m 60 ls []) rfl ?_
                refine lv_goto (tgt := 92) hx hb dX4_joinCodes_60 (by decide) ?_
                exact ck_vret ⟨upd (upd f ((0 : Int32).toNatClampNeg) 6) ((1 : Int32).toNatClampNeg) 3, 2, 0⟩ hx hb hr hlocks ⟨rfl, (by unfold r_joinCodes; rw [if_neg c_2, if_neg c_8, if_neg c_15, if_pos (show r_fnt g k = 0 from by unfold r_fnt; rw [if_pos c_21, if_pos c_29, if_neg c_36]; try decide), if_neg c_53] <;> first | rfl | exact rfl)⟩ (hP.part [0, 1] rfl) (hK.sub [0] rfl) (hD.part [0, 1] (by decide) rfl) hS (by decide) (by decide) dX4_joinCodes_92
            · refine lv_iconst (v := 1) hx hb dX4_joinCodes_39 (by decide) ?_
              refine lv_goto (tgt := 44) hx hb dX4_joinCodes_40 (by decide) ?_
              refine lv_istore_n (lv' := [(3, .int 1), (0, .ref r), (1, .ref q), (2, .int k)]) hx hb dX4_joinCodes_44 rfl hl (by decide) rfl (fun ls hl => ?_)
              refine lv_iload_n hx hb dX4_joinCodes_45 rfl (lv_at hl 0 rfl) ?_
              refine lv_if_ne (tgt := 56) hx hb dX4_joinCodes_46 (by decide) (fun _ => ?_) (fun c9 => absurd c9 (by decide))
              refine lv_aload_n hx hb dX4_joinCodes_56 rfl (lv_at hl 1 rfl) ?_
              refine ck_runQ (wr := []) (va_runV (C := RX4) (As := []) (rest := []) ⟨hx, hb, hml, hown, hts⟩ (r_setNotTrue l D s.heap.size r rc cR f n z) (cw_V (n := 0) hts tw_2_165 tw_2_167 tw_s17 tw_1_3 tw_2_168 (by decide +kernel) ⟨by decide, by decide⟩) ⟨pre.blind, va_recv (q := (RX4, TX4, 3)) hK hP (ci := 3) (q0 := 0) rfl rfl, fun U hU hW => ⟨rfl, pre.of (wc := [(r, .inr (3, [.ref rc, .int n, .int z])), (rc, .inl (cR, 512, .inl f))]) (tysc := [(cR, .int)]) (tk := [0]) hP.left hD.left hK hS hA hE hZ [0, 1] (by decide) rfl rfl rfl U hU hW⟩⟩ rfl rfl hl.1 rfl (lv_room (Nat.le_of_ble_eq_true rfl)) dX4_joinCodes_57 ⟨by decide, by decide⟩) hP hD hK hS hA [0, 1] [] rfl rfl (by decide) (by decide) (fun v u H locs hw hP hD hK9 hS => ?_)
              have hw : v = none := hw
              subst hw
              have hP : va_P D vwCl ([(r, .inr (3, [.ref rc, .int 2, .int 0])), (rc, .inl (cR, 512, .inl (upd (upd f ((0 : Int32).toNatClampNeg) 6) ((1 : Int32).toNatClampNeg) 3)))] ++ po) H := hP
              have hD : va_D _ ([(r, .inr (3, [.ref rc, .int 2, .int 0])), (rc, .inl (cR, 512, .inl (upd (upd f ((0 : Int32).toNatClampNeg) 6) ((1 : Int32).toNatClampNeg) 3)))] ++ po) := hD
              refine W.eq (g2 := F0 m 60 ls []) rfl ?_
              refine lv_goto (tgt := 92) hx hb dX4_joinCodes_60 (by decide) ?_
              exact ck_vret ⟨upd (upd f ((0 : Int32).toNatClampNeg) 6) ((1 : Int32).toNatClampNeg) 3, 2, 0⟩ hx hb hr hlocks ⟨rfl, (by unfold r_joinCodes; rw [if_neg c_2, if_neg c_8, if_neg c_15, if_neg (show ¬ r_fnt g k = 0 from by unfold r_fnt; rw [if_pos c_21, if_pos c_29, if_pos c_36]; try decide)] <;> first | rfl | exact rfl)⟩ (hP.part [0, 1] rfl) (hK.sub [0] rfl) (hD.part [0, 1] (by decide) rfl) hS (by decide) (by decide) dX4_joinCodes_92
      · exact ck_vret ⟨f, n, z⟩ hx hb hr hlocks ⟨rfl, (by unfold r_joinCodes; rw [if_neg c_2, if_neg c_8, if_pos c_15] <;> first | rfl | exact rfl)⟩ (hP.part [0, 1] rfl) (hK.sub [0] rfl) (hD.part [0, 1] (by decide) rfl) hS (by decide) (by decide) dX4_joinCodes_18
set_option maxHeartbeats 4000000 in
set_option maxRecDepth 100000 in
theorem c_load (l : Launch) (D : va_G) (sz : Nat) (r rc : Nat) (cR : ClassId) (f : Nat → Int32) (n z : Int32) (po : va_W) (j i : Nat) (o q : Nat) (N : Nat) (g : Nat → Int32) (w lo : Int32) (hgo : po[i]? = some (o, .inr (1, [.ref q, .int w, .int lo]))) (hgc : po[j]? = some (q, .inl (cR, N, .inl g))) (hN : 1 ≤ N ∧ N ≤ 512) (hn : r_ok n) : cM l yX4_load (.code yX4_load cX4_load 2 none) 12 340 0 0 [.ref r, .ref o] D [(cR, .int)] ([(r, .inr (3, [.ref rc, .int n, .int z])), (rc, .inl (cR, 512, .inl f))] ++ po) sz (S := (Nat → Int32) × Int32 × Int32) (fun v u => v = none ∧ r_load g N f n z = (u.1, u.2.1, u.2.2)) (fun u => ([(r, .inr (3, [.ref rc, .int u.2.1, .int u.2.2])), (rc, .inl (cR, 512, .inl u.1))] ++ po)) (fun u => [(cR, .int)]) := by
  refine cM_of (by decide) (Nat.le_of_ble_eq_true rfl) ?_
  intro p e s m below meth c ls hF hsz hP hK hD hE hZ hA hl
  obtain ⟨hx, hb, hr, hml, hown, hlocks, hnm, htb, hts⟩ := hF
  have hown : s.vm.findClass RX4 = some m.cls := hown
  have hl : lv_has ls 2 [(0, .ref r), (1, .ref o)] := hl
  have hS : va_S (va_A ([(r, .inr (3, [.ref rc, .int n, .int z])), (rc, .inl (cR, 512, .inl f))] ++ po) sz) s.heap s.heap [] := va_S.rf
  refine lv_aload_n hx hb dX4_load_0 rfl (lv_at hl 1 rfl) ?_
  refine lv_ifnonnull (tgt := 12) hx hb dX4_load_1 (by decide) ?_
  refine lv_aload_n hx hb dX4_load_12 rfl (lv_at hl 0 rfl) ?_
  refine lv_aload_n hx hb dX4_load_13 rfl (lv_at hl 1 rfl) ?_
  refine va_getN (ci := 1) (v := .ref q) (C := RX2) (T := TX2) (N := 3) hx hb hts inG_X2 hown hK hP (i + 2) hgo rfl 0 (by decide) (hE.w tn_1_104 rfl) (fun _ h9 => h9) rfl dX4_load_14 ?_
  refine lv_aload_n hx hb dX4_load_17 rfl (lv_at hl 1 rfl) ?_
  refine va_getN (ci := 1) (v := .ref q) (C := RX2) (T := TX2) (N := 3) hx hb hts inG_X2 hown hK hP (i + 2) hgo rfl 0 (by decide) (hE.w tn_1_104 rfl) (fun _ h9 => h9) rfl dX4_load_18 ?_
  refine va_alen hx hb hK hP (j + 2) 0 hgc rfl (v := nI N) rfl dX4_load_21 ?_
  have hP : va_P D vwCl ([(r, .inr (3, [.ref rc, .int n, .int z])), (rc, .inl (cR, 512, .inl f))] ++ po) s.heap := hP
  have hD : va_D _ ([(r, .inr (3, [.ref rc, .int n, .int z])), (rc, .inl (cR, 512, .inl f))] ++ po) := hD
  refine ck_runP (wr := []) (rx := fun u => [(r, .inr (3, [.ref rc, .int u.2.1, .int u.2.2])), (rc, .inl (cR, 512, .inl u.1))]) (pl1 := fun u => po) (va_runV (C := RX4) (As := [.ref q, .int (nI N)]) (rest := []) ⟨hx, hb, hml, hown, hts⟩ (c_copy l D s.heap.size r rc cR f n z po j q N g hgc hN (nI N) hn) (cw_V (n := 2) hts tw_2_136 tw_2_138 tw_s12 tw_1_3 tw_2_139 (by decide +kernel) ⟨by decide, by decide⟩) ⟨pre.blind, va_recv (q := (RX4, TX4, 3)) hK hP (ci := 3) (q0 := 0) rfl rfl, fun U hU hW => ⟨rfl, pre.ofP (cx := [(r, .inr (3, [.ref rc, .int n, .int z])), (rc, .inl (cR, 512, .inl f))]) (pl := po) (tysc := [(cR, .int)]) (tk := [0]) hP hD hK hS hA hE hZ [0, 1] (by decide) rfl rfl U hU hW⟩⟩ rfl rfl hl.1 rfl (lv_room (Nat.le_of_ble_eq_true rfl)) dX4_load_22 ⟨by decide, by decide⟩) hP hD hK hS hA (fun _ => rfl) [0, 1] [] rfl rfl (by decide) (by decide) (fun v u H locs hw hP hD hK9 hS => ?_)
  obtain ⟨f1_1, n1_2, z1_3⟩ := u
  have hw : v = none ∧ r_copy g (nI N) (nI N) f n z = (f1_1, n1_2, z1_3) := hw
  obtain ⟨rfl, hq_4⟩ := hw
  have hP : va_P D vwCl ([(r, .inr (3, [.ref rc, .int n1_2, .int z1_3])), (rc, .inl (cR, 512, .inl f1_1))] ++ po) H := hP
  have hD : va_D _ ([(r, .inr (3, [.ref rc, .int n1_2, .int z1_3])), (rc, .inl (cR, 512, .inl f1_1))] ++ po) := hD
  refine W.eq (g2 := F0 m 25 ls []) rfl ?_
  exact ck_vret ⟨f1_1, n1_2, z1_3⟩ hx hb hr hlocks ⟨rfl, (by first | (unfold r_load; (first | rfl | exact hq_4)) | (simp only [r_load, hq_4]))⟩ (hP.part [0, 1] rfl) (hK.sub [0] rfl) (hD.part [0, 1] (by decide) rfl) hS (by decide) (by decide) dX4_load_25
set_option maxHeartbeats 4000000 in
set_option maxRecDepth 100000 in
theorem c_loadN (l : Launch) (D : va_G) (sz : Nat) (r rc : Nat) (cR : ClassId) (f : Nat → Int32) (n z : Int32) : cM l yX4_load (.code yX4_load cX4_load 2 none) 12 340 0 0 [.ref r, .null] D [(cR, .int)] [(r, .inr (3, [.ref rc, .int n, .int z])), (rc, .inl (cR, 512, .inl f))] sz (S := Unit) (fun v _ => v = none) (fun _ => [(r, .inr (3, [.ref rc, .int 1, .int 0])), (rc, .inl (cR, 512, .inl (upd f ((0 : Int32).toNatClampNeg) 3)))]) (fun _ => [(cR, .int)]) := by
  refine cM_of (by decide) (Nat.le_of_ble_eq_true rfl) ?_
  intro p e s m below meth c ls hF hsz hP hK hD hE hZ hA hl
  obtain ⟨hx, hb, hr, hml, hown, hlocks, hnm, htb, hts⟩ := hF
  have hown : s.vm.findClass RX4 = some m.cls := hown
  have hl : lv_has ls 2 [(0, .ref r), (1, .null)] := hl
  have hS : va_S (va_A [(r, .inr (3, [.ref rc, .int n, .int z])), (rc, .inl (cR, 512, .inl f))] sz) s.heap s.heap [] := va_S.rf
  refine lv_aload_nN hx hb dX4_load_0 rfl (lv_at hl 1 rfl) ?_
  refine lv_ifnonnullN hx hb dX4_load_1 ?_
  refine lv_aload_n hx hb dX4_load_4 rfl (lv_at hl 0 rfl) ?_
  refine lv_iconst (v := 3) hx hb dX4_load_5 (by decide) ?_
  refine ck_run (wr := []) (va_runV (C := RX4) (As := [.int 3]) (rest := []) ⟨hx, hb, hml, hown, hts⟩ (r_setOnly l D s.heap.size r rc cR f n z 3) (cw_V (n := 1) hts tw_2_135 tw_2_63 tw_2_64 tw_1_3 tw_2_65 (by decide +kernel) ⟨by decide, by decide⟩) ⟨pre.blind, va_recv (q := (RX4, TX4, 3)) hK hP (ci := 3) (q0 := 0) rfl rfl, fun U hU hW => ⟨rfl, pre.of (wc := [(r, .inr (3, [.ref rc, .int n, .int z])), (rc, .inl (cR, 512, .inl f))]) (tysc := [(cR, .int)]) (tk := [0]) hP hD hK hS hA hE hZ [0, 1] (by decide) rfl rfl rfl U hU hW⟩⟩ rfl rfl hl.1 rfl (lv_room (Nat.le_of_ble_eq_true rfl)) dX4_load_6 ⟨by decide, by decide⟩) hP hD hK hS hA [0, 1] [] rfl rfl (by decide) (by decide) (fun v u H locs hw hP hD hK9 hS => ?_)
  have hw : v = none := hw
  subst hw
  have hP : va_P D vwCl [(r, .inr (3, [.ref rc, .int 1, .int 0])), (rc, .inl (cR, 512, .inl (upd f ((0 : Int32).toNatClampNeg) 3)))] H := hP
  have hD : va_D _ [(r, .inr (3, [.ref rc, .int 1, .int 0])), (rc, .inl (cR, 512, .inl (upd f ((0 : Int32).toNatClampNeg) 3)))] := hD
  refine W.eq (g2 := F0 m 9 ls []) rfl ?_
  refine lv_goto (tgt := 25) hx hb dX4_load_9 (by decide) ?_
  exact ck_vret () hx hb hr hlocks rfl (hP.sub [0, 1] rfl) (hK.sub [0] rfl) (hD.sub [0, 1] (by decide) rfl) hS (by decide) (by decide) dX4_load_25
set_option maxHeartbeats 4000000 in
set_option maxRecDepth 100000 in
theorem c_joinForm (l : Launch) (D : va_G) (sz : Nat) (r rc : Nat) (cR : ClassId) (f : Nat → Int32) (n z : Int32) (po : va_W) (j i : Nat) (o q : Nat) (N : Nat) (g : Nat → Int32) (w lo : Int32) (hgo : po[i]? = some (o, .inr (1, [.ref q, .int w, .int lo]))) (hgc : po[j]? = some (q, .inl (cR, N, .inl g))) (hN : 1 ≤ N ∧ N ≤ 512) (hn : r_ok n) : cM l yX4_joinForm (.code yX4_joinForm cX4_joinForm 2 none) 20 620 0 0 [.ref r, .ref o] D [(cR, .int)] ([(r, .inr (3, [.ref rc, .int n, .int z])), (rc, .inl (cR, 512, .inl f))] ++ po) sz (S := (Nat → Int32) × Int32 × Int32) (fun v u => v = none ∧ r_joinForm g N f n z = (u.1, u.2.1, u.2.2)) (fun u => ([(r, .inr (3, [.ref rc, .int u.2.1, .int u.2.2])), (rc, .inl (cR, 512, .inl u.1))] ++ po)) (fun u => [(cR, .int)]) := by
  refine cM_of (by decide) (Nat.le_of_ble_eq_true rfl) ?_
  intro p e s m below meth c ls hF hsz hP hK hD hE hZ hA hl
  obtain ⟨hx, hb, hr, hml, hown, hlocks, hnm, htb, hts⟩ := hF
  have hown : s.vm.findClass RX4 = some m.cls := hown
  have hl : lv_has ls 2 [(0, .ref r), (1, .ref o)] := hl
  have hS : va_S (va_A ([(r, .inr (3, [.ref rc, .int n, .int z])), (rc, .inl (cR, 512, .inl f))] ++ po) sz) s.heap s.heap [] := va_S.rf
  refine lv_aload_n hx hb dX4_joinForm_0 rfl (lv_at hl 1 rfl) ?_
  refine lv_ifnull hx hb dX4_joinForm_1 ?_
  refine lv_aload_n hx hb dX4_joinForm_4 rfl (lv_at hl 0 rfl) ?_
  refine lv_aload_n hx hb dX4_joinForm_5 rfl (lv_at hl 1 rfl) ?_
  refine va_getN (ci := 1) (v := .ref q) (C := RX2) (T := TX2) (N := 3) hx hb hts inG_X2 hown hK hP (i + 2) hgo rfl 0 (by decide) (hE.w tn_1_104 rfl) (fun _ h9 => h9) rfl dX4_joinForm_6 ?_
  refine lv_aload_n hx hb dX4_joinForm_9 rfl (lv_at hl 1 rfl) ?_
  refine va_getN (ci := 1) (v := .ref q) (C := RX2) (T := TX2) (N := 3) hx hb hts inG_X2 hown hK hP (i + 2) hgo rfl 0 (by decide) (hE.w tn_1_104 rfl) (fun _ h9 => h9) rfl dX4_joinForm_10 ?_
  refine va_alen hx hb hK hP (j + 2) 0 hgc rfl (v := nI N) rfl dX4_joinForm_13 ?_
  have hP : va_P D vwCl ([(r, .inr (3, [.ref rc, .int n, .int z])), (rc, .inl (cR, 512, .inl f))] ++ po) s.heap := hP
  have hD : va_D _ ([(r, .inr (3, [.ref rc, .int n, .int z])), (rc, .inl (cR, 512, .inl f))] ++ po) := hD
  refine ck_runP (wr := []) (rx := fun u => [(r, .inr (3, [.ref rc, .int u.2.1, .int u.2.2])), (rc, .inl (cR, 512, .inl u.1))]) (pl1 := fun u => po) (va_runV (C := RX4) (As := [.ref q, .int (nI N)]) (rest := []) ⟨hx, hb, hml, hown, hts⟩ (c_joinCodes l D s.heap.size r rc cR f n z po j q N g hgc hN (nI N) hn) (cw_V (n := 2) hts tw_2_157 tw_2_159 tw_s15 tw_1_3 tw_2_160 (by decide +kernel) ⟨by decide, by decide⟩) ⟨pre.blind, va_recv (q := (RX4, TX4, 3)) hK hP (ci := 3) (q0 := 0) rfl rfl, fun U hU hW => ⟨rfl, pre.ofP (cx := [(r, .inr (3, [.ref rc, .int n, .int z])), (rc, .inl (cR, 512, .inl f))]) (pl := po) (tysc := [(cR, .int)]) (tk := [0]) hP hD hK hS hA hE hZ [0, 1] (by decide) rfl rfl U hU hW⟩⟩ rfl rfl hl.1 rfl (lv_room (Nat.le_of_ble_eq_true rfl)) dX4_joinForm_14 ⟨by decide, by decide⟩) hP hD hK hS hA (fun _ => rfl) [0, 1] [] rfl rfl (by decide) (by decide) (fun v u H locs hw hP hD hK9 hS => ?_)
  obtain ⟨f1_1, n1_2, z1_3⟩ := u
  have hw : v = none ∧ r_joinCodes g (nI N) (nI N) f n z = (f1_1, n1_2, z1_3) := hw
  obtain ⟨rfl, hq_4⟩ := hw
  have hP : va_P D vwCl ([(r, .inr (3, [.ref rc, .int n1_2, .int z1_3])), (rc, .inl (cR, 512, .inl f1_1))] ++ po) H := hP
  have hD : va_D _ ([(r, .inr (3, [.ref rc, .int n1_2, .int z1_3])), (rc, .inl (cR, 512, .inl f1_1))] ++ po) := hD
  refine W.eq (g2 := F0 m 17 ls []) rfl ?_
  exact ck_vret ⟨f1_1, n1_2, z1_3⟩ hx hb hr hlocks ⟨rfl, (by first | (unfold r_joinForm; (first | rfl | exact hq_4)) | (simp only [r_joinForm, hq_4]))⟩ (hP.part [0, 1] rfl) (hK.sub [0] rfl) (hD.part [0, 1] (by decide) rfl) hS (by decide) (by decide) dX4_joinForm_17
set_option maxHeartbeats 4000000 in
set_option maxRecDepth 100000 in
theorem c_imply (l : Launch) (D : va_G) (sz : Nat) (r rc : Nat) (cR : ClassId) (f : Nat → Int32) (n z : Int32) (po : va_W) (j i : Nat) (o q : Nat) (N : Nat) (g : Nat → Int32) (w lo : Int32) (hgo : po[i]? = some (o, .inr (1, [.ref q, .int w, .int lo]))) (hgc : po[j]? = some (q, .inl (cR, N, .inl g))) (hN : 1 ≤ N ∧ N ≤ 512) (hn : r_ok n) : cM l yX4_imply (.code yX4_imply cX4_imply 2 none) 20 620 0 0 [.ref r, .ref o] D [(cR, .int)] ([(r, .inr (3, [.ref rc, .int n, .int z])), (rc, .inl (cR, 512, .inl f))] ++ po) sz (S := (Nat → Int32) × Int32 × Int32) (fun v u => v = none ∧ r_imply g N f n z = (u.1, u.2.1, u.2.2)) (fun u => ([(r, .inr (3, [.ref rc, .int u.2.1, .int u.2.2])), (rc, .inl (cR, 512, .inl u.1))] ++ po)) (fun u => [(cR, .int)]) := by
  refine cM_of (by decide) (Nat.le_of_ble_eq_true rfl) ?_
  intro p e s m below meth c ls hF hsz hP hK hD hE hZ hA hl
  obtain ⟨hx, hb, hr, hml, hown, hlocks, hnm, htb, hts⟩ := hF
  have hown : s.vm.findClass RX4 = some m.cls := hown
  have hl : lv_has ls 2 [(0, .ref r), (1, .ref o)] := hl
  have hS : va_S (va_A ([(r, .inr (3, [.ref rc, .int n, .int z])), (rc, .inl (cR, 512, .inl f))] ++ po) sz) s.heap s.heap [] := va_S.rf
  refine lv_aload_n hx hb dX4_imply_0 rfl (lv_at hl 1 rfl) ?_
  refine lv_ifnonnull (tgt := 5) hx hb dX4_imply_1 (by decide) ?_
  refine lv_aload_n hx hb dX4_imply_5 rfl (lv_at hl 0 rfl) ?_
  refine ck_runQ (wr := []) (va_runV (C := RX4) (As := []) (rest := []) ⟨hx, hb, hml, hown, hts⟩ (c_neg l D s.heap.size r rc cR f n z hn) (cw_V (n := 0) hts tw_2_198 tw_2_142 tw_2_143 tw_1_3 tw_2_144 (by decide +kernel) ⟨by decide, by decide⟩) ⟨pre.blind, va_recv (q := (RX4, TX4, 3)) hK hP (ci := 3) (q0 := 0) rfl rfl, fun U hU hW => ⟨rfl, pre.of (wc := [(r, .inr (3, [.ref rc, .int n, .int z])), (rc, .inl (cR, 512, .inl f))]) (tysc := [(cR, .int)]) (tk := [0]) hP.left hD.left hK hS hA hE hZ [0, 1] (by decide) rfl rfl rfl U hU hW⟩⟩ rfl rfl hl.1 rfl (lv_room (Nat.le_of_ble_eq_true rfl)) dX4_imply_6 ⟨by decide, by decide⟩) hP hD hK hS hA [0, 1] [] rfl rfl (by decide) (by decide) (fun v u H locs hw hP hD hK9 hS => ?_)
  obtain ⟨f1_1, n1_2, z1_3⟩ := u
  have hw : v = none ∧ r_neg f n z = (f1_1, n1_2, z1_3) := hw
  obtain ⟨rfl, hq_4⟩ := hw
  have hP : va_P D vwCl ([(r, .inr (3, [.ref rc, .int n1_2, .int z1_3])), (rc, .inl (cR, 512, .inl f1_1))] ++ po) H := hP
  have hD : va_D _ ([(r, .inr (3, [.ref rc, .int n1_2, .int z1_3])), (rc, .inl (cR, 512, .inl f1_1))] ++ po) := hD
  refine W.eq (g2 := F0 m 9 ls []) rfl ?_
  refine lv_aload_n hx hb dX4_imply_9 rfl (lv_at hl 0 rfl) ?_
  refine lv_aload_n hx hb dX4_imply_10 rfl (lv_at hl 1 rfl) ?_
  refine va_getN (ci := 1) (v := .ref q) (C := RX2) (T := TX2) (N := 3) hx hb hts inG_X2 hown hK hP (i + 2) hgo rfl 0 (by decide) (hE.w tn_1_104 rfl) (fun _ h9 => h9) rfl dX4_imply_11 ?_
  refine lv_aload_n hx hb dX4_imply_14 rfl (lv_at hl 1 rfl) ?_
  refine va_getN (ci := 1) (v := .ref q) (C := RX2) (T := TX2) (N := 3) hx hb hts inG_X2 hown hK hP (i + 2) hgo rfl 0 (by decide) (hE.w tn_1_104 rfl) (fun _ h9 => h9) rfl dX4_imply_15 ?_
  refine va_alen hx hb hK hP (j + 2) 0 hgc rfl (v := nI N) rfl dX4_imply_18 ?_
  have hP : va_P D vwCl ([(r, .inr (3, [.ref rc, .int n1_2, .int z1_3])), (rc, .inl (cR, 512, .inl f1_1))] ++ po) H := hP
  have hD : va_D _ ([(r, .inr (3, [.ref rc, .int n1_2, .int z1_3])), (rc, .inl (cR, 512, .inl f1_1))] ++ po) := hD
  refine ck_runP (wr := []) (rx := fun u => [(r, .inr (3, [.ref rc, .int u.2.1, .int u.2.2])), (rc, .inl (cR, 512, .inl u.1))]) (pl1 := fun u => po) (va_runV (C := RX4) (As := [.ref q, .int (nI N)]) (rest := []) ⟨hx, hb, hml, hown, hts⟩ (c_joinCodes l D H.size r rc cR f1_1 n1_2 z1_3 po j q N g hgc hN (nI N) (ok_of hq_4 (r_neg_ok hn))) (cw_V (n := 2) hts tw_2_157 tw_2_159 tw_s15 tw_1_3 tw_2_160 (by decide +kernel) ⟨by decide, by decide⟩) ⟨pre.blind, va_recv (q := (RX4, TX4, 3)) hK hP (ci := 3) (q0 := 0) rfl rfl, fun U hU hW => ⟨rfl, pre.ofP (cx := [(r, .inr (3, [.ref rc, .int n1_2, .int z1_3])), (rc, .inl (cR, 512, .inl f1_1))]) (pl := po) (tysc := [(cR, .int)]) (tk := [0]) hP hD hK hS hA hE hZ [0, 1] (by decide) rfl rfl U hU hW⟩⟩ rfl rfl hl.1 rfl (lv_room (Nat.le_of_ble_eq_true rfl)) dX4_imply_19 ⟨by decide, by decide⟩) hP hD hK hS hA (fun _ => rfl) [0, 1] [] rfl rfl (by decide) (by decide) (fun v u H locs hw hP hD hK9 hS => ?_)
  obtain ⟨f1_5, n1_6, z1_7⟩ := u
  have hw : v = none ∧ r_joinCodes g (nI N) (nI N) f1_1 n1_2 z1_3 = (f1_5, n1_6, z1_7) := hw
  obtain ⟨rfl, hq_8⟩ := hw
  have hP : va_P D vwCl ([(r, .inr (3, [.ref rc, .int n1_6, .int z1_7])), (rc, .inl (cR, 512, .inl f1_5))] ++ po) H := hP
  have hD : va_D _ ([(r, .inr (3, [.ref rc, .int n1_6, .int z1_7])), (rc, .inl (cR, 512, .inl f1_5))] ++ po) := hD
  refine W.eq (g2 := F0 m 22 ls []) rfl ?_
  refine lv_aload_n hx hb dX4_imply_22 rfl (lv_at hl 0 rfl) ?_
  refine ck_runQ (wr := []) (va_runV (C := RX4) (As := []) (rest := []) ⟨hx, hb, hml, hown, hts⟩ (c_neg l D H.size r rc cR f1_5 n1_6 z1_7 (ok_of hq_8 (r_joinCodes_ok (nI_512 hN.2) (ok_of hq_4 (r_neg_ok hn))))) (cw_V (n := 0) hts tw_2_198 tw_2_142 tw_2_143 tw_1_3 tw_2_144 (by decide +kernel) ⟨by decide, by decide⟩) ⟨pre.blind, va_recv (q := (RX4, TX4, 3)) hK hP (ci := 3) (q0 := 0) rfl rfl, fun U hU hW => ⟨rfl, pre.of (wc := [(r, .inr (3, [.ref rc, .int n1_6, .int z1_7])), (rc, .inl (cR, 512, .inl f1_5))]) (tysc := [(cR, .int)]) (tk := [0]) hP.left hD.left hK hS hA hE hZ [0, 1] (by decide) rfl rfl rfl U hU hW⟩⟩ rfl rfl hl.1 rfl (lv_room (Nat.le_of_ble_eq_true rfl)) dX4_imply_23 ⟨by decide, by decide⟩) hP hD hK hS hA [0, 1] [] rfl rfl (by decide) (by decide) (fun v u H locs hw hP hD hK9 hS => ?_)
  obtain ⟨f1_9, n1_10, z1_11⟩ := u
  have hw : v = none ∧ r_neg f1_5 n1_6 z1_7 = (f1_9, n1_10, z1_11) := hw
  obtain ⟨rfl, hq_12⟩ := hw
  have hP : va_P D vwCl ([(r, .inr (3, [.ref rc, .int n1_10, .int z1_11])), (rc, .inl (cR, 512, .inl f1_9))] ++ po) H := hP
  have hD : va_D _ ([(r, .inr (3, [.ref rc, .int n1_10, .int z1_11])), (rc, .inl (cR, 512, .inl f1_9))] ++ po) := hD
  refine W.eq (g2 := F0 m 26 ls []) rfl ?_
  exact ck_vret ⟨f1_9, n1_10, z1_11⟩ hx hb hr hlocks ⟨rfl, (by first | (unfold r_imply; (first | rfl | exact hq_12 | exact hq_8 | exact hq_4)) | (simp only [r_imply, hq_4, hq_8, hq_12]))⟩ (hP.part [0, 1] rfl) (hK.sub [0] rfl) (hD.part [0, 1] (by decide) rfl) hS (by decide) (by decide) dX4_imply_26
set_option maxHeartbeats 4000000 in
set_option maxRecDepth 100000 in
theorem c_implyN (l : Launch) (D : va_G) (sz : Nat) (r rc : Nat) (cR : ClassId) (f : Nat → Int32) (n z : Int32) : cM l yX4_imply (.code yX4_imply cX4_imply 2 none) 20 620 0 0 [.ref r, .null] D [(cR, .int)] [(r, .inr (3, [.ref rc, .int n, .int z])), (rc, .inl (cR, 512, .inl f))] sz (S := Unit) (fun v _ => v = none) (fun _ => [(r, .inr (3, [.ref rc, .int n, .int z])), (rc, .inl (cR, 512, .inl f))]) (fun _ => [(cR, .int)]) := by
  refine cM_of (by decide) (Nat.le_of_ble_eq_true rfl) ?_
  intro p e s m below meth c ls hF hsz hP hK hD hE hZ hA hl
  obtain ⟨hx, hb, hr, hml, hown, hlocks, hnm, htb, hts⟩ := hF
  have hown : s.vm.findClass RX4 = some m.cls := hown
  have hl : lv_has ls 2 [(0, .ref r), (1, .null)] := hl
  have hS : va_S (va_A [(r, .inr (3, [.ref rc, .int n, .int z])), (rc, .inl (cR, 512, .inl f))] sz) s.heap s.heap [] := va_S.rf
  refine lv_aload_nN hx hb dX4_imply_0 rfl (lv_at hl 1 rfl) ?_
  refine lv_ifnonnullN hx hb dX4_imply_1 ?_
  exact ck_vret () hx hb hr hlocks rfl (hP.sub [0, 1] rfl) (hK.sub [0] rfl) (hD.sub [0, 1] (by decide) rfl) hS (by decide) (by decide) dX4_imply_4
set_option maxHeartbeats 4000000 in
set_option maxRecDepth 100000 in
theorem c_joinRow (l : Launch) (D : va_G) (sz : Nat) (r rc : Nat) (cR : ClassId) (f : Nat → Int32) (n z : Int32) (s_ sc : Nat) (g : Nat → Int32) (k y : Int32) (hn : r_ok n) : cM l yX4_joinRow (.code yX4_joinRow cX4_joinRow 2 none) 20 620 0 0 [.ref r, .ref s_] D [(cR, .int)] [(r, .inr (3, [.ref rc, .int n, .int z])), (rc, .inl (cR, 512, .inl f)), (s_, .inr (3, [.ref sc, .int k, .int y])), (sc, .inl (cR, 512, .inl g))] sz (S := (Nat → Int32) × Int32 × Int32) (fun v u => v = none ∧ r_joinRow g k y f n z = (u.1, u.2.1, u.2.2)) (fun u => [(r, .inr (3, [.ref rc, .int u.2.1, .int u.2.2])), (rc, .inl (cR, 512, .inl u.1)), (s_, .inr (3, [.ref sc, .int k, .int y])), (sc, .inl (cR, 512, .inl g))]) (fun u => [(cR, .int)]) := by
  refine cM_of (by decide) (Nat.le_of_ble_eq_true rfl) ?_
  intro p e s m below meth c ls hF hsz hP hK hD hE hZ hA hl
  obtain ⟨hx, hb, hr, hml, hown, hlocks, hnm, htb, hts⟩ := hF
  have hown : s.vm.findClass RX4 = some m.cls := hown
  have hl : lv_has ls 2 [(0, .ref r), (1, .ref s_)] := hl
  have hS : va_S (va_A [(r, .inr (3, [.ref rc, .int n, .int z])), (rc, .inl (cR, 512, .inl f)), (s_, .inr (3, [.ref sc, .int k, .int y])), (sc, .inl (cR, 512, .inl g))] sz) s.heap s.heap [] := va_S.rf
  refine lv_aload_n hx hb dX4_joinRow_0 rfl (lv_at hl 1 rfl) ?_
  refine va_get (ci := 3) (v := .int y) (C := RX4) (T := TX4) (N := 3) hx hb hts inG_X4 hown hK hP 2 rfl rfl 2 (by decide) (hts _ tw_1_63) (fun _ h9 => h9) rfl dX4_joinRow_1 ?_
  refine lv_if_ne (tgt := 22) hx hb dX4_joinRow_4 (by decide) (fun c_4 => ?_) (fun c_4 => ?_)
  · refine lv_aload_n hx hb dX4_joinRow_22 rfl (lv_at hl 0 rfl) ?_
    refine ck_run (wr := [(s_, .inr (3, [.ref sc, .int k, .int y])), (sc, .inl (cR, 512, .inl g))]) (va_runV (C := RX4) (As := []) (rest := []) ⟨hx, hb, hml, hown, hts⟩ (c_isNT l D s.heap.size r rc cR f n z) (cw_V (n := 0) hts tw_2_161 tw_2_163 tw_s16 tw_1_3 tw_2_164 (by decide +kernel) ⟨by decide, by decide⟩) ⟨pre.blind, va_recv (q := (RX4, TX4, 3)) hK hP (ci := 3) (q0 := 0) rfl rfl, fun U hU hW => ⟨rfl, pre.of (wc := [(r, .inr (3, [.ref rc, .int n, .int z])), (rc, .inl (cR, 512, .inl f))]) (tysc := [(cR, .int)]) (tk := [0]) hP hD hK hS hA hE hZ [0, 1] (by decide) rfl rfl rfl U hU hW⟩⟩ rfl rfl hl.1 rfl (lv_room (Nat.le_of_ble_eq_true rfl)) dX4_joinRow_23 ⟨by decide, by decide⟩) hP hD hK hS hA [0, 1] [2, 3] rfl rfl (by decide) (by decide) (fun v u H locs hw hP hD hK9 hS => ?_)
    have hw : v = some (.int (r_isNT f z)) := hw
    subst hw
    have hP : va_P D vwCl [(s_, .inr (3, [.ref sc, .int k, .int y])), (sc, .inl (cR, 512, .inl g)), (r, .inr (3, [.ref rc, .int n, .int z])), (rc, .inl (cR, 512, .inl f))] H := hP
    have hD : va_D _ [(s_, .inr (3, [.ref sc, .int k, .int y])), (sc, .inl (cR, 512, .inl g)), (r, .inr (3, [.ref rc, .int n, .int z])), (rc, .inl (cR, 512, .inl f))] := hD
    refine W.eq (g2 := F0 m 26 ls [.int (r_isNT f z)]) rfl ?_
    refine lv_if_ne (tgt := 34) hx hb dX4_joinRow_26 (by decide) (fun c_26 => ?_) (fun c_26 => ?_)
    · exact ck_vret ⟨f, n, z⟩ hx hb hr hlocks ⟨rfl, (by first | (unfold r_joinRow; rw [if_neg c_4, if_neg c_26] <;> (first | rfl)) | (simp only [r_joinRow, if_neg c_4, if_neg c_26]))⟩ (hP.sub [2, 3, 0, 1] rfl) (hK.sub [0] rfl) (hD.sub [2, 3, 0, 1] (by decide) rfl) hS (by decide) (by decide) dX4_joinRow_34
    · refine lv_aload_n hx hb dX4_joinRow_29 rfl (lv_at hl 0 rfl) ?_
      refine lv_iconst (v := 1) hx hb dX4_joinRow_30 (by decide) ?_
      refine va_put (ci := 3) (v := .int 1) (ty := .boolean) (C := RX4) (T := TX4) (N := 3) hx hb hts inG_X4 tyX4 tyX4_ok nmX4 hown hK hP hD hS 2 rfl rfl 2 (by decide) (hts _ tw_1_63) (fun _ h9 => h9) rfl (by decide +kernel) rfl rfl (Nat.le_of_ble_eq_true rfl) dX4_joinRow_31 (fun H locs hP hD hS => ?_)
      have hP : va_P D vwCl [(s_, .inr (3, [.ref sc, .int k, .int y])), (sc, .inl (cR, 512, .inl g)), (r, .inr (3, [.ref rc, .int n, .int 1])), (rc, .inl (cR, 512, .inl f))] H := hP
      have hD : va_D _ [(s_, .inr (3, [.ref sc, .int k, .int y])), (sc, .inl (cR, 512, .inl g)), (r, .inr (3, [.ref rc, .int n, .int 1])), (rc, .inl (cR, 512, .inl f))] := hD
      exact ck_vret ⟨f, n, 1⟩ hx hb hr hlocks ⟨rfl, (by first | (unfold r_joinRow; rw [if_neg c_4, if_pos c_26] <;> (first | rfl)) | (simp only [r_joinRow, if_neg c_4, if_pos c_26]))⟩ (hP.sub [2, 3, 0, 1] rfl) (hK.sub [0] rfl) (hD.sub [2, 3, 0, 1] (by decide) rfl) hS (by decide) (by decide) dX4_joinRow_34
  · refine lv_aload_n hx hb dX4_joinRow_7 rfl (lv_at hl 0 rfl) ?_
    refine lv_aload_n hx hb dX4_joinRow_8 rfl (lv_at hl 1 rfl) ?_
    refine va_get (ci := 3) (v := .ref sc) (C := RX4) (T := TX4) (N := 3) hx hb hts inG_X4 hown hK hP 2 rfl rfl 0 (by decide) (hts _ tw_1_61) (fun _ h9 => h9) rfl dX4_joinRow_9 ?_
    refine lv_aload_n hx hb dX4_joinRow_12 rfl (lv_at hl 1 rfl) ?_
    refine va_get (ci := 3) (v := .int k) (C := RX4) (T := TX4) (N := 3) hx hb hts inG_X4 hown hK hP 2 rfl rfl 1 (by decide) (hts _ tw_1_62) (fun _ h9 => h9) rfl dX4_joinRow_13 ?_
    have hP : va_P D vwCl ([(r, .inr (3, [.ref rc, .int n, .int z])), (rc, .inl (cR, 512, .inl f))] ++ [(s_, .inr (3, [.ref sc, .int k, .int y])), (sc, .inl (cR, 512, .inl g))]) s.heap := hP
    have hD : va_D _ ([(r, .inr (3, [.ref rc, .int n, .int z])), (rc, .inl (cR, 512, .inl f))] ++ [(s_, .inr (3, [.ref sc, .int k, .int y])), (sc, .inl (cR, 512, .inl g))]) := hD
    refine ck_runP (wr := []) (rx := fun u => [(r, .inr (3, [.ref rc, .int u.2.1, .int u.2.2])), (rc, .inl (cR, 512, .inl u.1))]) (pl1 := fun u => ([(s_, .inr (3, [.ref sc, .int k, .int y])), (sc, .inl (cR, 512, .inl g))])) (va_runV (C := RX4) (As := [.ref sc, .int k]) (rest := []) ⟨hx, hb, hml, hown, hts⟩ (c_joinCodes l D s.heap.size r rc cR f n z ([(s_, .inr (3, [.ref sc, .int k, .int y])), (sc, .inl (cR, 512, .inl g))]) 1 sc 512 g rfl (by decide) k hn) (cw_V (n := 2) hts tw_2_157 tw_2_159 tw_s15 tw_1_3 tw_2_160 (by decide +kernel) ⟨by decide, by decide⟩) ⟨pre.blind, va_recv (q := (RX4, TX4, 3)) hK hP (ci := 3) (q0 := 0) rfl rfl, fun U hU hW => ⟨rfl, pre.ofP (cx := [(r, .inr (3, [.ref rc, .int n, .int z])), (rc, .inl (cR, 512, .inl f))]) (pl := [(s_, .inr (3, [.ref sc, .int k, .int y])), (sc, .inl (cR, 512, .inl g))]) (tysc := [(cR, .int)]) (tk := [0]) hP hD hK hS hA hE hZ [0, 1] (by decide) rfl rfl U hU hW⟩⟩ rfl rfl hl.1 rfl (lv_room (Nat.le_of_ble_eq_true rfl)) dX4_joinRow_16 ⟨by decide, by decide⟩) hP hD hK hS hA (fun _ => rfl) [0, 1] [] rfl rfl (by decide) (by decide) (fun v u H locs hw hP hD hK9 hS => ?_)
    obtain ⟨f1_1, n1_2, z1_3⟩ := u
    have hw : v = none ∧ r_joinCodes g (nI 512) k f n z = (f1_1, n1_2, z1_3) := hw
    obtain ⟨rfl, hq_4⟩ := hw
    have hP : va_P D vwCl [(r, .inr (3, [.ref rc, .int n1_2, .int z1_3])), (rc, .inl (cR, 512, .inl f1_1)), (s_, .inr (3, [.ref sc, .int k, .int y])), (sc, .inl (cR, 512, .inl g))] H := hP
    have hD : va_D _ [(r, .inr (3, [.ref rc, .int n1_2, .int z1_3])), (rc, .inl (cR, 512, .inl f1_1)), (s_, .inr (3, [.ref sc, .int k, .int y])), (sc, .inl (cR, 512, .inl g))] := hD
    refine W.eq (g2 := F0 m 19 ls []) rfl ?_
    refine lv_goto (tgt := 34) hx hb dX4_joinRow_19 (by decide) ?_
    exact ck_vret ⟨f1_1, n1_2, z1_3⟩ hx hb hr hlocks ⟨rfl, (by first | (unfold r_joinRow; rw [if_pos c_4] <;> (first | rfl | exact hq_4)) | (simp only [r_joinRow, if_pos c_4, hq_4]))⟩ (hP.sub [0, 1, 2, 3] rfl) (hK.sub [0] rfl) (hD.sub [0, 1, 2, 3] (by decide) rfl) hS (by decide) (by decide) dX4_joinRow_34
set_option maxHeartbeats 4000000 in
set_option maxRecDepth 100000 in
theorem c_bindSome (l : Launch) (D : va_G) (sz : Nat) (r rc : Nat) (cR : ClassId) (f : Nat → Int32) (n z : Int32) (a : Int32) (hn : r_ok n) : cM l yX4_bindSome (.code yX4_bindSome cX4_bindSome 2 none) 18 550 0 0 [.ref r, .int a] D [(cR, .int)] [(r, .inr (3, [.ref rc, .int n, .int z])), (rc, .inl (cR, 512, .inl f))] sz (S := (Nat → Int32) × Int32 × Int32) (fun v u => v = none ∧ r_bindSome a f n z = (u.1, u.2.1, u.2.2)) (fun u => [(r, .inr (3, [.ref rc, .int u.2.1, .int u.2.2])), (rc, .inl (cR, 512, .inl u.1))]) (fun u => [(cR, .int)]) := by
  refine cM_of (by decide) (Nat.le_of_ble_eq_true rfl) ?_
  intro p e s m below meth c ls hF hsz hP hK hD hE hZ hA hl
  obtain ⟨hx, hb, hr, hml, hown, hlocks, hnm, htb, hts⟩ := hF
  have hown : s.vm.findClass RX4 = some m.cls := hown
  have hl : lv_has ls 2 [(0, .ref r), (1, .int a)] := hl
  have hS : va_S (va_A [(r, .inr (3, [.ref rc, .int n, .int z])), (rc, .inl (cR, 512, .inl f))] sz) s.heap s.heap [] := va_S.rf
  refine lv_aload_n hx hb dX4_bindSome_0 rfl (lv_at hl 0 rfl) ?_
  refine ck_run (wr := []) (va_runV (C := RX4) (As := []) (rest := []) ⟨hx, hb, hml, hown, hts⟩ (c_neg l D s.heap.size r rc cR f n z hn) (cw_V (n := 0) hts tw_2_198 tw_2_142 tw_2_143 tw_1_3 tw_2_144 (by decide +kernel) ⟨by decide, by decide⟩) ⟨pre.blind, va_recv (q := (RX4, TX4, 3)) hK hP (ci := 3) (q0 := 0) rfl rfl, fun U hU hW => ⟨rfl, pre.of (wc := [(r, .inr (3, [.ref rc, .int n, .int z])), (rc, .inl (cR, 512, .inl f))]) (tysc := [(cR, .int)]) (tk := [0]) hP hD hK hS hA hE hZ [0, 1] (by decide) rfl rfl rfl U hU hW⟩⟩ rfl rfl hl.1 rfl (lv_room (Nat.le_of_ble_eq_true rfl)) dX4_bindSome_1 ⟨by decide, by decide⟩) hP hD hK hS hA [0, 1] [] rfl rfl (by decide) (by decide) (fun v u H locs hw hP hD hK9 hS => ?_)
  obtain ⟨f1_1, n1_2, z1_3⟩ := u
  have hw : v = none ∧ r_neg f n z = (f1_1, n1_2, z1_3) := hw
  obtain ⟨rfl, hq_4⟩ := hw
  have hP : va_P D vwCl [(r, .inr (3, [.ref rc, .int n1_2, .int z1_3])), (rc, .inl (cR, 512, .inl f1_1))] H := hP
  have hD : va_D _ [(r, .inr (3, [.ref rc, .int n1_2, .int z1_3])), (rc, .inl (cR, 512, .inl f1_1))] := hD
  refine W.eq (g2 := F0 m 4 ls []) rfl ?_
  refine lv_aload_n hx hb dX4_bindSome_4 rfl (lv_at hl 0 rfl) ?_
  refine lv_iload_n hx hb dX4_bindSome_5 rfl (lv_at hl 1 rfl) ?_
  refine ck_run (wr := []) (va_runV (C := RX4) (As := [.int a]) (rest := []) ⟨hx, hb, hml, hown, hts⟩ (c_bindAll l D H.size r rc cR f1_1 n1_2 z1_3 a (ok_of hq_4 (r_neg_ok hn))) (cw_V (n := 1) hts tw_2_216 tw_2_217 tw_2_218 tw_1_3 tw_2_219 (by decide +kernel) ⟨by decide, by decide⟩) ⟨pre.blind, va_recv (q := (RX4, TX4, 3)) hK hP (ci := 3) (q0 := 0) rfl rfl, fun U hU hW => ⟨rfl, pre.of (wc := [(r, .inr (3, [.ref rc, .int n1_2, .int z1_3])), (rc, .inl (cR, 512, .inl f1_1))]) (tysc := [(cR, .int)]) (tk := [0]) hP hD hK hS hA hE hZ [0, 1] (by decide) rfl rfl rfl U hU hW⟩⟩ rfl rfl hl.1 rfl (lv_room (Nat.le_of_ble_eq_true rfl)) dX4_bindSome_6 ⟨by decide, by decide⟩) hP hD hK hS hA [0, 1] [] rfl rfl (by decide) (by decide) (fun v u H locs hw hP hD hK9 hS => ?_)
  obtain ⟨f1_5, n1_6, z1_7⟩ := u
  have hw : v = none ∧ r_bindAll a f1_1 n1_2 z1_3 = (f1_5, n1_6, z1_7) := hw
  obtain ⟨rfl, hq_8⟩ := hw
  have hP : va_P D vwCl [(r, .inr (3, [.ref rc, .int n1_6, .int z1_7])), (rc, .inl (cR, 512, .inl f1_5))] H := hP
  have hD : va_D _ [(r, .inr (3, [.ref rc, .int n1_6, .int z1_7])), (rc, .inl (cR, 512, .inl f1_5))] := hD
  refine W.eq (g2 := F0 m 9 ls []) rfl ?_
  refine lv_aload_n hx hb dX4_bindSome_9 rfl (lv_at hl 0 rfl) ?_
  refine ck_run (wr := []) (va_runV (C := RX4) (As := []) (rest := []) ⟨hx, hb, hml, hown, hts⟩ (c_neg l D H.size r rc cR f1_5 n1_6 z1_7 (ok_of hq_8 (r_bindAll_ok (ok_of hq_4 (r_neg_ok hn))))) (cw_V (n := 0) hts tw_2_198 tw_2_142 tw_2_143 tw_1_3 tw_2_144 (by decide +kernel) ⟨by decide, by decide⟩) ⟨pre.blind, va_recv (q := (RX4, TX4, 3)) hK hP (ci := 3) (q0 := 0) rfl rfl, fun U hU hW => ⟨rfl, pre.of (wc := [(r, .inr (3, [.ref rc, .int n1_6, .int z1_7])), (rc, .inl (cR, 512, .inl f1_5))]) (tysc := [(cR, .int)]) (tk := [0]) hP hD hK hS hA hE hZ [0, 1] (by decide) rfl rfl rfl U hU hW⟩⟩ rfl rfl hl.1 rfl (lv_room (Nat.le_of_ble_eq_true rfl)) dX4_bindSome_10 ⟨by decide, by decide⟩) hP hD hK hS hA [0, 1] [] rfl rfl (by decide) (by decide) (fun v u H locs hw hP hD hK9 hS => ?_)
  obtain ⟨f1_9, n1_10, z1_11⟩ := u
  have hw : v = none ∧ r_neg f1_5 n1_6 z1_7 = (f1_9, n1_10, z1_11) := hw
  obtain ⟨rfl, hq_12⟩ := hw
  have hP : va_P D vwCl [(r, .inr (3, [.ref rc, .int n1_10, .int z1_11])), (rc, .inl (cR, 512, .inl f1_9))] H := hP
  have hD : va_D _ [(r, .inr (3, [.ref rc, .int n1_10, .int z1_11])), (rc, .inl (cR, 512, .inl f1_9))] := hD
  refine W.eq (g2 := F0 m 13 ls []) rfl ?_
  exact ck_vret ⟨f1_9, n1_10, z1_11⟩ hx hb hr hlocks ⟨rfl, (by first | (unfold r_bindSome; (first | rfl | exact hq_12 | exact hq_8 | exact hq_4)) | (simp only [r_bindSome, hq_4, hq_8, hq_12]))⟩ (hP.sub [0, 1] rfl) (hK.sub [0] rfl) (hD.sub [0, 1] (by decide) rfl) hS (by decide) (by decide) dX4_bindSome_13
