set_option maxHeartbeats 4000000 in
set_option maxRecDepth 100000 in
theorem c_predicate (l : Launch) (hl0 : l.stackTraces = false) (D : va_G) (sz : Nat) (h fo mn df bl tr wk sd : Nat) (cI : ClassId) (x : Int32) : cX l yX5_predicate (.code yX5_predicate cX5_predicate 2 (some .int)) 24 760 1 6 [.ref h, .int x] D [(cI, .int)] [(h, .inr (4, [.ref fo, .int 0, .int 0, .ref mn, .ref df, .int 0, .ref bl, .int 0, .int 0, .int 1, .int 0, .ref tr, .ref wk, .ref sd])), (mn, .inl (cI, 30, .inl (fun _ => 0)))] sz (S := Unit) (fun v _ => v = some (.int 0) ∧ (¬ x < 0 ∧ x ≤ 2)) (fun _ => []) (fun _ => []) (fun E => E = nIAE ∧ ¬ (¬ x < 0 ∧ x ≤ 2)) := by
  refine cX_of (by decide) (Nat.le_of_ble_eq_true rfl) ?_
  intro p e s m below meth c ls hF hsz hP hK hD hE hZ hA hl
  obtain ⟨hx, hb, hr, hml, hown, hlocks, hnm, htb, hts⟩ := hF
  have hown : s.vm.findClass RX5 = some m.cls := hown
  have hl : lv_has ls 2 [(0, .ref h), (1, .int x)] := hl
  have hS : va_S (va_A [(h, .inr (4, [.ref fo, .int 0, .int 0, .ref mn, .ref df, .int 0, .ref bl, .int 0, .int 0, .int 1, .int 0, .ref tr, .ref wk, .ref sd])), (mn, .inl (cI, 30, .inl (fun _ => 0)))] sz) s.heap s.heap [] := va_S.rf
  refine lv_iload_n hx hb dX5_predicate_0 rfl (lv_at hl 1 rfl) ?_
  refine lv_if_lt (tgt := 9) hx hb dX5_predicate_1 (by decide) (fun c_1 => ?_) (fun c_1 => ?_)
  · exact th_IAE hx hb hl0 hown hlocks htb hE hZ hS (hl.1.trans hml.symm) tn_1_213 sx_53 dX5_predicate_9 dX5_predicate_12 dX5_predicate_13 dX5_predicate_15 dX5_predicate_18 (by decide) (Nat.le_of_ble_eq_true rfl) (Nat.le_of_ble_eq_true rfl) (Nat.le_of_ble_eq_true rfl) ⟨rfl, by first | exact fun g => g.1 c_1 | exact fun g => c_6 g.2⟩ (by decide) (by decide)
  · refine lv_iload_n hx hb dX5_predicate_4 rfl (lv_at hl 1 rfl) ?_
    refine lv_iconst (v := 2) hx hb dX5_predicate_5 (by decide) ?_
    refine lv_icmp_le (tgt := 19) hx hb dX5_predicate_6 (by decide) (fun c_6 => ?_) (fun c_6 => ?_)
    · refine lv_aload_n hx hb dX5_predicate_19 rfl (lv_at hl 0 rfl) ?_
      refine va_get (ci := 4) (v := .int 0) (C := RX5) (T := TX5) (N := 14) hx hb hts inG_X5 hown hK hP 0 rfl rfl 5 (by decide) (hts _ tw_1_122) (fun _ h9 => h9) rfl dX5_predicate_20 ?_
      refine lv_bipush (v := 30) hx hb dX5_predicate_23 (by decide) ?_
      refine lv_icmp_lt (tgt := 38) hx hb dX5_predicate_25 (by decide) (fun _ => ?_) (fun c9 => absurd (by decide) c9)
      refine lv_aload_n hx hb dX5_predicate_38 rfl (lv_at hl 0 rfl) ?_
      refine va_get (ci := 4) (v := .ref mn) (C := RX5) (T := TX5) (N := 14) hx hb hts inG_X5 hown hK hP 0 rfl rfl 3 (by decide) (hts _ tw_1_120) (fun _ h9 => h9) rfl dX5_predicate_39 ?_
      refine lv_aload_n hx hb dX5_predicate_42 rfl (lv_at hl 0 rfl) ?_
      refine va_get (ci := 4) (v := .int 0) (C := RX5) (T := TX5) (N := 14) hx hb hts inG_X5 hown hK hP 0 rfl rfl 5 (by decide) (hts _ tw_1_122) (fun _ h9 => h9) rfl dX5_predicate_43 ?_
      refine lv_iload_n hx hb dX5_predicate_46 rfl (lv_at hl 1 rfl) ?_
      refine va_iast hx hb hK hP hD hS 1 0 rfl rfl (vi (by decide)) dX5_predicate_47 (fun H locs hP hD hS => ?_)
      have hP : va_P D vwCl [(h, .inr (4, [.ref fo, .int 0, .int 0, .ref mn, .ref df, .int 0, .ref bl, .int 0, .int 0, .int 1, .int 0, .ref tr, .ref wk, .ref sd])), (mn, .inl (cI, 30, .inl (upd (fun _ => 0) ((0 : Int32).toNatClampNeg) x)))] H := hP
      have hD : va_D _ [(h, .inr (4, [.ref fo, .int 0, .int 0, .ref mn, .ref df, .int 0, .ref bl, .int 0, .int 0, .int 1, .int 0, .ref tr, .ref wk, .ref sd])), (mn, .inl (cI, 30, .inl (upd (fun _ => 0) ((0 : Int32).toNatClampNeg) x)))] := hD
      refine lv_aload_n hx hb dX5_predicate_48 rfl (lv_at hl 0 rfl) ?_
      refine lv_dup hx hb dX5_predicate_49 rfl ?_
      refine va_get (ci := 4) (v := .int 0) (C := RX5) (T := TX5) (N := 14) hx hb hts inG_X5 hown hK hP 0 rfl rfl 5 (by decide) (hts _ tw_1_122) (fun _ h9 => h9) rfl dX5_predicate_50 ?_
      refine lv_iconst (v := 1) hx hb dX5_predicate_53 (by decide) ?_
      refine lv_iadd hx hb dX5_predicate_54 ?_
      refine ck_top (y := 1) (by decide) ?_
      refine va_put (ci := 4) (v := .int 1) (ty := .int) (C := RX5) (T := TX5) (N := 14) hx hb hts inG_X5 tyX5 tyX5_ok nmX5 hown hK hP hD hS 0 rfl rfl 5 (by decide) (hts _ tw_1_122) (fun _ h9 => h9) rfl (by decide +kernel) rfl rfl (Nat.le_of_ble_eq_true rfl) dX5_predicate_55 (fun H locs hP hD hS => ?_)
      have hP : va_P D vwCl [(h, .inr (4, [.ref fo, .int 0, .int 0, .ref mn, .ref df, .int 1, .ref bl, .int 0, .int 0, .int 1, .int 0, .ref tr, .ref wk, .ref sd])), (mn, .inl (cI, 30, .inl (upd (fun _ => 0) ((0 : Int32).toNatClampNeg) x)))] H := hP
      have hD : va_D _ [(h, .inr (4, [.ref fo, .int 0, .int 0, .ref mn, .ref df, .int 1, .ref bl, .int 0, .int 0, .int 1, .int 0, .ref tr, .ref wk, .ref sd])), (mn, .inl (cI, 30, .inl (upd (fun _ => 0) ((0 : Int32).toNatClampNeg) x)))] := hD
      refine lv_aload_n hx hb dX5_predicate_58 rfl (lv_at hl 0 rfl) ?_
      refine va_get (ci := 4) (v := .int 1) (C := RX5) (T := TX5) (N := 14) hx hb hts inG_X5 hown hK hP 0 rfl rfl 5 (by decide) (hts _ tw_1_122) (fun _ h9 => h9) rfl dX5_predicate_59 ?_
      refine lv_iconst (v := 1) hx hb dX5_predicate_62 (by decide) ?_
      refine lv_isub hx hb dX5_predicate_63 ?_
      refine ck_top (y := 0) (by decide) ?_
      exact vx_ret (ck_iret () hx hb hr rfl hlocks ⟨rfl, ⟨c_1, c_6⟩⟩ (hP.sub [] rfl) (hK.sub [] rfl) (hD.sub [] (by decide) rfl) hS (by decide) (by decide) dX5_predicate_64)
    · exact th_IAE hx hb hl0 hown hlocks htb hE hZ hS (hl.1.trans hml.symm) tn_1_213 sx_53 dX5_predicate_9 dX5_predicate_12 dX5_predicate_13 dX5_predicate_15 dX5_predicate_18 (by decide) (Nat.le_of_ble_eq_true rfl) (Nat.le_of_ble_eq_true rfl) (Nat.le_of_ble_eq_true rfl) ⟨rfl, by first | exact fun g => g.1 c_1 | exact fun g => c_6 g.2⟩ (by decide) (by decide)
set_option maxHeartbeats 4000000 in
set_option maxRecDepth 100000 in
theorem c_define (l : Launch) (hl0 : l.stackTraces = false) (D : va_G) (sz : Nat) (h fo mn df bl tr wk sd : Nat) (x y : Int32) : cX l yX5_define (.code yX5_define cX5_define 5 (some .boolean)) 24 760 1 6 [.ref h, .int x, .int y] D [] [(h, .inr (4, [.ref fo, .int 0, .int 0, .ref mn, .ref df, .int 0, .ref bl, .int 0, .int 0, .int 1, .int 0, .ref tr, .ref wk, .ref sd]))] sz (S := Unit) (fun _ _ => False) (fun _ => []) (fun _ => []) (fun E => E = nIAE) := by
  refine cX_of (by decide) (Nat.le_of_ble_eq_true rfl) ?_
  intro p e s m below meth c ls hF hsz hP hK hD hE hZ hA hl
  obtain ⟨hx, hb, hr, hml, hown, hlocks, hnm, htb, hts⟩ := hF
  have hown : s.vm.findClass RX5 = some m.cls := hown
  have hl : lv_has ls 5 [(0, .ref h), (1, .int x), (2, .int y)] := hl
  have hS : va_S (va_A [(h, .inr (4, [.ref fo, .int 0, .int 0, .ref mn, .ref df, .int 0, .ref bl, .int 0, .int 0, .int 1, .int 0, .ref tr, .ref wk, .ref sd]))] sz) s.heap s.heap [] := va_S.rf
  refine lv_aload_n hx hb dX5_define_0 rfl (lv_at hl 0 rfl) ?_
  refine lv_iload_n hx hb dX5_define_1 rfl (lv_at hl 2 rfl) ?_
  refine ck_run (wr := []) (va_runV (C := RX5) (As := [.int y]) (rest := []) ⟨hx, hb, hml, hown, hts⟩ (c_formulaAt l D s.heap.size h fo mn df bl tr wk sd y) (cw_V (n := 1) hts tw_2_23 tw_2_25 tw_s1 tw_1_1 tw_2_26 (by decide +kernel) ⟨by decide, by decide⟩) ⟨pre.blind, va_recv (q := (RX5, TX5, 14)) hK hP (ci := 4) (q0 := 0) rfl rfl, fun U hU hW => ⟨rfl, pre.of (wc := [(h, .inr (4, [.ref fo, .int 0, .int 0, .ref mn, .ref df, .int 0, .ref bl, .int 0, .int 0, .int 1, .int 0, .ref tr, .ref wk, .ref sd]))]) (tysc := []) (tk := []) hP hD hK hS hA hE hZ [0] (by decide) rfl rfl rfl U hU hW⟩⟩ rfl rfl hl.1 rfl (lv_room (Nat.le_of_ble_eq_true rfl)) dX5_define_2 ⟨by decide, by decide⟩) hP hD hK hS hA [0] [] rfl rfl (by decide) (by decide) (fun v u H locs hw hP hD hK9 hS => ?_)
  have hw : v = some (.null) := hw
  subst hw
  have hP : va_P D vwCl [(h, .inr (4, [.ref fo, .int 0, .int 0, .ref mn, .ref df, .int 0, .ref bl, .int 0, .int 0, .int 1, .int 0, .ref tr, .ref wk, .ref sd]))] H := hP
  have hD : va_D _ [(h, .inr (4, [.ref fo, .int 0, .int 0, .ref mn, .ref df, .int 0, .ref bl, .int 0, .int 0, .int 1, .int 0, .ref tr, .ref wk, .ref sd]))] := hD
  refine W.eq (g2 := F0 m 5 ls [.null]) rfl ?_
  refine lv_astore_nN (lv' := [(3, .null), (0, .ref h), (1, .int x), (2, .int y)]) hx hb dX5_define_5 rfl hl (by decide) rfl (fun ls hl => ?_)
  refine lv_aload_n hx hb dX5_define_6 rfl (lv_at hl 1 rfl) ?_
  refine lv_iload_n hx hb dX5_define_7 rfl (lv_at hl 2 rfl) ?_
  refine ck_run (wr := []) (va_runV (C := RX5) (As := [.int x]) (rest := []) ⟨hx, hb, hml, hown, hts⟩ (c_isPred l D H.size h fo mn df bl tr wk sd x) (cw_V (n := 1) hts tw_2_43 tw_2_45 tw_s4 tw_1_1 tw_2_46 (by decide +kernel) ⟨by decide, by decide⟩) ⟨pre.blind, va_recv (q := (RX5, TX5, 14)) hK hP (ci := 4) (q0 := 0) rfl rfl, fun U hU hW => ⟨rfl, pre.of (wc := [(h, .inr (4, [.ref fo, .int 0, .int 0, .ref mn, .ref df, .int 0, .ref bl, .int 0, .int 0, .int 1, .int 0, .ref tr, .ref wk, .ref sd]))]) (tysc := []) (tk := []) hP hD hK hS hA hE hZ [0] (by decide) rfl rfl rfl U hU hW⟩⟩ rfl rfl hl.1 rfl (lv_room (Nat.le_of_ble_eq_true rfl)) dX5_define_8 ⟨by decide, by decide⟩) hP hD hK hS hA [0] [] rfl rfl (by decide) (by decide) (fun v u H locs hw hP hD hK9 hS => ?_)
  have hw : v = some (.int 0) := hw
  subst hw
  have hP : va_P D vwCl [(h, .inr (4, [.ref fo, .int 0, .int 0, .ref mn, .ref df, .int 0, .ref bl, .int 0, .int 0, .int 1, .int 0, .ref tr, .ref wk, .ref sd]))] H := hP
  have hD : va_D _ [(h, .inr (4, [.ref fo, .int 0, .int 0, .ref mn, .ref df, .int 0, .ref bl, .int 0, .int 0, .int 1, .int 0, .ref tr, .ref wk, .ref sd]))] := hD
  refine W.eq (g2 := F0 m 11 ls [.int 0]) rfl ?_
  refine lv_if_eq (tgt := 31) hx hb dX5_define_11 (by decide) (fun _ => ?_) (fun c9 => absurd (by decide) c9)
  exact th_IAE hx hb hl0 hown hlocks htb hE hZ hS (hl.1.trans hml.symm) tn_2_47 sx_78 dX5_define_31 dX5_define_34 dX5_define_35 dX5_define_37 dX5_define_40 (by decide) (Nat.le_of_ble_eq_true rfl) (Nat.le_of_ble_eq_true rfl) (Nat.le_of_ble_eq_true rfl) rfl (by decide) (by decide)
set_option maxHeartbeats 4000000 in
set_option maxRecDepth 100000 in
theorem c_atom (l : Launch) (hl0 : l.stackTraces = false) (D : va_G) (sz : Nat) (h fo mn df bl tr wk sd : Nat) (x y z : Int32) : cX l yX5_atom (.code yX5_atom cX5_atom 5 (some .int)) 24 760 1 6 [.ref h, .int x, .int y, .int z] D [] [(h, .inr (4, [.ref fo, .int 0, .int 0, .ref mn, .ref df, .int 0, .ref bl, .int 0, .int 0, .int 1, .int 0, .ref tr, .ref wk, .ref sd]))] sz (S := Unit) (fun _ _ => False) (fun _ => []) (fun _ => []) (fun E => E = nIAE) := by
  refine cX_of (by decide) (Nat.le_of_ble_eq_true rfl) ?_
  intro p e s m below meth c ls hF hsz hP hK hD hE hZ hA hl
  obtain ⟨hx, hb, hr, hml, hown, hlocks, hnm, htb, hts⟩ := hF
  have hown : s.vm.findClass RX5 = some m.cls := hown
  have hl : lv_has ls 5 [(0, .ref h), (1, .int x), (2, .int y), (3, .int z)] := hl
  have hS : va_S (va_A [(h, .inr (4, [.ref fo, .int 0, .int 0, .ref mn, .ref df, .int 0, .ref bl, .int 0, .int 0, .int 1, .int 0, .ref tr, .ref wk, .ref sd]))] sz) s.heap s.heap [] := va_S.rf
  refine lv_iload_n hx hb dX5_atom_0 rfl (lv_at hl 1 rfl) ?_
  refine lv_iconst (v := (-1)) hx hb dX5_atom_1 (by decide) ?_
  refine lv_icmp_eq (tgt := 23) hx hb dX5_atom_2 (by decide) (fun c_2 => ?_) (fun c_2 => ?_)
  · refine lv_iload_n hx hb dX5_atom_23 rfl (lv_at hl 1 rfl) ?_
    refine lv_iconst (v := (-1)) hx hb dX5_atom_24 (by decide) ?_
    refine lv_icmp_ne (tgt := 32) hx hb dX5_atom_25 (by decide) (fun c9 => absurd c_2 c9) (fun _ => ?_)
    refine lv_iconst (v := 2) hx hb dX5_atom_28 (by decide) ?_
    refine lv_goto (tgt := 38) hx hb dX5_atom_29 (by decide) ?_
    refine lv_istore (lv' := [(4, .int 2), (0, .ref h), (1, .int x), (2, .int y), (3, .int z)]) hx hb dX5_atom_38 hl (by decide) rfl (fun ls hl => ?_)
    refine lv_aload_n hx hb dX5_atom_40 rfl (lv_at hl 1 rfl) ?_
    refine lv_iload_n hx hb dX5_atom_41 rfl (lv_at hl 3 rfl) ?_
    refine lv_iload hx hb dX5_atom_42 (lv_at hl 0 rfl) ?_
    refine lv_if_le (tgt := 51) hx hb dX5_atom_44 (by decide) (fun c9 => absurd c9 (by decide)) (fun _ => ?_)
    refine lv_iconst (v := 1) hx hb dX5_atom_47 (by decide) ?_
    refine lv_goto (tgt := 52) hx hb dX5_atom_48 (by decide) ?_
    refine ck_run (wr := []) (va_runV (C := RX5) (As := [.int y, .int 1]) (rest := []) ⟨hx, hb, hml, hown, hts⟩ (c_isTN1 l D s.heap.size h fo mn df bl tr wk sd y) (cw_V (n := 2) hts tw_2_92 tw_2_94 tw_s7 tw_1_1 tw_2_95 (by decide +kernel) ⟨by decide, by decide⟩) ⟨pre.blind, va_recv (q := (RX5, TX5, 14)) hK hP (ci := 4) (q0 := 0) rfl rfl, fun U hU hW => ⟨rfl, pre.of (wc := [(h, .inr (4, [.ref fo, .int 0, .int 0, .ref mn, .ref df, .int 0, .ref bl, .int 0, .int 0, .int 1, .int 0, .ref tr, .ref wk, .ref sd]))]) (tysc := []) (tk := []) hP hD hK hS hA hE hZ [0] (by decide) rfl rfl rfl U hU hW⟩⟩ rfl rfl hl.1 rfl (lv_room (Nat.le_of_ble_eq_true rfl)) dX5_atom_52 ⟨by decide, by decide⟩) hP hD hK hS hA [0] [] rfl rfl (by decide) (by decide) (fun v u H locs hw hP hD hK9 hS => ?_)
    have hw : v = some (.int 0) := hw
    subst hw
    have hP : va_P D vwCl [(h, .inr (4, [.ref fo, .int 0, .int 0, .ref mn, .ref df, .int 0, .ref bl, .int 0, .int 0, .int 1, .int 0, .ref tr, .ref wk, .ref sd]))] H := hP
    have hD : va_D _ [(h, .inr (4, [.ref fo, .int 0, .int 0, .ref mn, .ref df, .int 0, .ref bl, .int 0, .int 0, .int 1, .int 0, .ref tr, .ref wk, .ref sd]))] := hD
    refine W.eq (g2 := F0 m 55 ls [.int 0]) rfl ?_
    refine lv_if_eq (tgt := 77) hx hb dX5_atom_55 (by decide) (fun _ => ?_) (fun c9 => absurd (by decide) c9)
    exact th_IAE hx hb hl0 hown hlocks htb hE hZ hS (hl.1.trans hml.symm) tn_2_100 sx_105 dX5_atom_77 dX5_atom_80 dX5_atom_81 dX5_atom_83 dX5_atom_86 (by decide) (Nat.le_of_ble_eq_true rfl) (Nat.le_of_ble_eq_true rfl) (Nat.le_of_ble_eq_true rfl) rfl (by decide) (by decide)
  · refine lv_aload_n hx hb dX5_atom_5 rfl (lv_at hl 0 rfl) ?_
    refine lv_iload_n hx hb dX5_atom_6 rfl (lv_at hl 1 rfl) ?_
    refine ck_run (wr := []) (va_runV (C := RX5) (As := [.int x]) (rest := []) ⟨hx, hb, hml, hown, hts⟩ (c_isPred l D s.heap.size h fo mn df bl tr wk sd x) (cw_V (n := 1) hts tw_2_43 tw_2_45 tw_s4 tw_1_1 tw_2_46 (by decide +kernel) ⟨by decide, by decide⟩) ⟨pre.blind, va_recv (q := (RX5, TX5, 14)) hK hP (ci := 4) (q0 := 0) rfl rfl, fun U hU hW => ⟨rfl, pre.of (wc := [(h, .inr (4, [.ref fo, .int 0, .int 0, .ref mn, .ref df, .int 0, .ref bl, .int 0, .int 0, .int 1, .int 0, .ref tr, .ref wk, .ref sd]))]) (tysc := []) (tk := []) hP hD hK hS hA hE hZ [0] (by decide) rfl rfl rfl U hU hW⟩⟩ rfl rfl hl.1 rfl (lv_room (Nat.le_of_ble_eq_true rfl)) dX5_atom_7 ⟨by decide, by decide⟩) hP hD hK hS hA [0] [] rfl rfl (by decide) (by decide) (fun v u H locs hw hP hD hK9 hS => ?_)
    have hw : v = some (.int 0) := hw
    subst hw
    have hP : va_P D vwCl [(h, .inr (4, [.ref fo, .int 0, .int 0, .ref mn, .ref df, .int 0, .ref bl, .int 0, .int 0, .int 1, .int 0, .ref tr, .ref wk, .ref sd]))] H := hP
    have hD : va_D _ [(h, .inr (4, [.ref fo, .int 0, .int 0, .ref mn, .ref df, .int 0, .ref bl, .int 0, .int 0, .int 1, .int 0, .ref tr, .ref wk, .ref sd]))] := hD
    refine W.eq (g2 := F0 m 10 ls [.int 0]) rfl ?_
    refine lv_if_ne (tgt := 23) hx hb dX5_atom_10 (by decide) (fun c9 => absurd (by decide) c9) (fun _ => ?_)
    exact th_IAE hx hb hl0 hown hlocks htb hE hZ hS (hl.1.trans hml.symm) tn_2_91 sx_99 dX5_atom_13 dX5_atom_16 dX5_atom_17 dX5_atom_19 dX5_atom_22 (by decide) (Nat.le_of_ble_eq_true rfl) (Nat.le_of_ble_eq_true rfl) (Nat.le_of_ble_eq_true rfl) rfl (by decide) (by decide)
set_option maxHeartbeats 4000000 in
set_option maxRecDepth 100000 in
theorem c_bind (l : Launch) (hl0 : l.stackTraces = false) (D : va_G) (sz : Nat) (h fo mn df bl tr wk sd : Nat) (x y z : Int32) : cX l yX5_bind (.code yX5_bind cX5_bind 6 (some .int)) 24 760 1 6 [.ref h, .int x, .int y, .int z] D [] [(h, .inr (4, [.ref fo, .int 0, .int 0, .ref mn, .ref df, .int 0, .ref bl, .int 0, .int 0, .int 1, .int 0, .ref tr, .ref wk, .ref sd]))] sz (S := Unit) (fun _ _ => False) (fun _ => []) (fun _ => []) (fun E => E = nIAE) := by
  refine cX_of (by decide) (Nat.le_of_ble_eq_true rfl) ?_
  intro p e s m below meth c ls hF hsz hP hK hD hE hZ hA hl
  obtain ⟨hx, hb, hr, hml, hown, hlocks, hnm, htb, hts⟩ := hF
  have hown : s.vm.findClass RX5 = some m.cls := hown
  have hl : lv_has ls 6 [(0, .ref h), (1, .int x), (2, .int y), (3, .int z)] := hl
  have hS : va_S (va_A [(h, .inr (4, [.ref fo, .int 0, .int 0, .ref mn, .ref df, .int 0, .ref bl, .int 0, .int 0, .int 1, .int 0, .ref tr, .ref wk, .ref sd]))] sz) s.heap s.heap [] := va_S.rf
  refine lv_aload_n hx hb dX5_bind_0 rfl (lv_at hl 0 rfl) ?_
  refine lv_iload_n hx hb dX5_bind_1 rfl (lv_at hl 2 rfl) ?_
  refine ck_run (wr := []) (va_runV (C := RX5) (As := [.int y]) (rest := []) ⟨hx, hb, hml, hown, hts⟩ (c_constantAt l D s.heap.size h fo mn df bl tr wk sd y) (cw_V (n := 1) hts tw_2_206 tw_2_208 tw_s21 tw_1_1 tw_2_209 (by decide +kernel) ⟨by decide, by decide⟩) ⟨pre.blind, va_recv (q := (RX5, TX5, 14)) hK hP (ci := 4) (q0 := 0) rfl rfl, fun U hU hW => ⟨rfl, pre.of (wc := [(h, .inr (4, [.ref fo, .int 0, .int 0, .ref mn, .ref df, .int 0, .ref bl, .int 0, .int 0, .int 1, .int 0, .ref tr, .ref wk, .ref sd]))]) (tysc := []) (tk := []) hP hD hK hS hA hE hZ [0] (by decide) rfl rfl rfl U hU hW⟩⟩ rfl rfl hl.1 rfl (lv_room (Nat.le_of_ble_eq_true rfl)) dX5_bind_2 ⟨by decide, by decide⟩) hP hD hK hS hA [0] [] rfl rfl (by decide) (by decide) (fun v u H locs hw hP hD hK9 hS => ?_)
  have hw : v = some (.int (-1)) := hw
  subst hw
  have hP : va_P D vwCl [(h, .inr (4, [.ref fo, .int 0, .int 0, .ref mn, .ref df, .int 0, .ref bl, .int 0, .int 0, .int 1, .int 0, .ref tr, .ref wk, .ref sd]))] H := hP
  have hD : va_D _ [(h, .inr (4, [.ref fo, .int 0, .int 0, .ref mn, .ref df, .int 0, .ref bl, .int 0, .int 0, .int 1, .int 0, .ref tr, .ref wk, .ref sd]))] := hD
  refine W.eq (g2 := F0 m 5 ls [.int (-1)]) rfl ?_
  refine lv_istore (lv' := [(4, .int (-1)), (0, .ref h), (1, .int x), (2, .int y), (3, .int z)]) hx hb dX5_bind_5 hl (by decide) rfl (fun ls hl => ?_)
  refine lv_aload_n hx hb dX5_bind_7 rfl (lv_at hl 1 rfl) ?_
  refine lv_iload_n hx hb dX5_bind_8 rfl (lv_at hl 4 rfl) ?_
  refine ck_run (wr := []) (va_runV (C := RX5) (As := [.int z]) (rest := []) ⟨hx, hb, hml, hown, hts⟩ (c_formulaAt l D H.size h fo mn df bl tr wk sd z) (cw_V (n := 1) hts tw_2_23 tw_2_25 tw_s1 tw_1_1 tw_2_26 (by decide +kernel) ⟨by decide, by decide⟩) ⟨pre.blind, va_recv (q := (RX5, TX5, 14)) hK hP (ci := 4) (q0 := 0) rfl rfl, fun U hU hW => ⟨rfl, pre.of (wc := [(h, .inr (4, [.ref fo, .int 0, .int 0, .ref mn, .ref df, .int 0, .ref bl, .int 0, .int 0, .int 1, .int 0, .ref tr, .ref wk, .ref sd]))]) (tysc := []) (tk := []) hP hD hK hS hA hE hZ [0] (by decide) rfl rfl rfl U hU hW⟩⟩ rfl rfl hl.1 rfl (lv_room (Nat.le_of_ble_eq_true rfl)) dX5_bind_9 ⟨by decide, by decide⟩) hP hD hK hS hA [0] [] rfl rfl (by decide) (by decide) (fun v u H locs hw hP hD hK9 hS => ?_)
  have hw : v = some (.null) := hw
  subst hw
  have hP : va_P D vwCl [(h, .inr (4, [.ref fo, .int 0, .int 0, .ref mn, .ref df, .int 0, .ref bl, .int 0, .int 0, .int 1, .int 0, .ref tr, .ref wk, .ref sd]))] H := hP
  have hD : va_D _ [(h, .inr (4, [.ref fo, .int 0, .int 0, .ref mn, .ref df, .int 0, .ref bl, .int 0, .int 0, .int 1, .int 0, .ref tr, .ref wk, .ref sd]))] := hD
  refine W.eq (g2 := F0 m 12 ls [.null]) rfl ?_
  refine lv_astoreN (lv' := [(5, .null), (4, .int (-1)), (0, .ref h), (1, .int x), (2, .int y), (3, .int z)]) hx hb dX5_bind_12 hl (by decide) rfl (fun ls hl => ?_)
  refine lv_iload hx hb dX5_bind_14 (lv_at hl 1 rfl) ?_
  refine lv_iconst (v := (-1)) hx hb dX5_bind_16 (by decide) ?_
  refine lv_icmp_eq (tgt := 25) hx hb dX5_bind_17 (by decide) (fun _ => ?_) (fun c9 => absurd (by decide) c9)
  exact th_IAE hx hb hl0 hown hlocks htb hE hZ hS (hl.1.trans hml.symm) tn_2_211 sx_128 dX5_bind_25 dX5_bind_28 dX5_bind_29 dX5_bind_31 dX5_bind_34 (by decide) (Nat.le_of_ble_eq_true rfl) (Nat.le_of_ble_eq_true rfl) (Nat.le_of_ble_eq_true rfl) rfl (by decide) (by decide)
set_option maxHeartbeats 4000000 in
set_option maxRecDepth 100000 in
theorem c_proof (l : Launch) (hl0 : l.stackTraces = false) (D : va_G) (sz : Nat) (h fo mn df bl tr wk sd : Nat) (x : Int32) : cX l yX5_proof (.code yX5_proof cX5_proof 3 (some .int)) 24 760 1 6 [.ref h, .int x] D [] [(h, .inr (4, [.ref fo, .int 0, .int 0, .ref mn, .ref df, .int 0, .ref bl, .int 0, .int 0, .int 1, .int 0, .ref tr, .ref wk, .ref sd]))] sz (S := Unit) (fun _ _ => False) (fun _ => []) (fun _ => []) (fun E => E = nIAE) := by
  refine cX_of (by decide) (Nat.le_of_ble_eq_true rfl) ?_
  intro p e s m below meth c ls hF hsz hP hK hD hE hZ hA hl
  obtain ⟨hx, hb, hr, hml, hown, hlocks, hnm, htb, hts⟩ := hF
  have hown : s.vm.findClass RX5 = some m.cls := hown
  have hl : lv_has ls 3 [(0, .ref h), (1, .int x)] := hl
  have hS : va_S (va_A [(h, .inr (4, [.ref fo, .int 0, .int 0, .ref mn, .ref df, .int 0, .ref bl, .int 0, .int 0, .int 1, .int 0, .ref tr, .ref wk, .ref sd]))] sz) s.heap s.heap [] := va_S.rf
  refine lv_aload_n hx hb dX5_proof_0 rfl (lv_at hl 0 rfl) ?_
  refine lv_iload_n hx hb dX5_proof_1 rfl (lv_at hl 1 rfl) ?_
  refine ck_run (wr := []) (va_runV (C := RX5) (As := [.int x]) (rest := []) ⟨hx, hb, hml, hown, hts⟩ (c_closedAt l D s.heap.size h fo mn df bl tr wk sd x) (cw_V (n := 1) hts tw_2_228 tw_2_230 tw_s22 tw_1_1 tw_2_231 (by decide +kernel) ⟨by decide, by decide⟩) ⟨pre.blind, va_recv (q := (RX5, TX5, 14)) hK hP (ci := 4) (q0 := 0) rfl rfl, fun U hU hW => ⟨rfl, pre.of (wc := [(h, .inr (4, [.ref fo, .int 0, .int 0, .ref mn, .ref df, .int 0, .ref bl, .int 0, .int 0, .int 1, .int 0, .ref tr, .ref wk, .ref sd]))]) (tysc := []) (tk := []) hP hD hK hS hA hE hZ [0] (by decide) rfl rfl rfl U hU hW⟩⟩ rfl rfl hl.1 rfl (lv_room (Nat.le_of_ble_eq_true rfl)) dX5_proof_2 ⟨by decide, by decide⟩) hP hD hK hS hA [0] [] rfl rfl (by decide) (by decide) (fun v u H locs hw hP hD hK9 hS => ?_)
  have hw : v = some (.null) := hw
  subst hw
  have hP : va_P D vwCl [(h, .inr (4, [.ref fo, .int 0, .int 0, .ref mn, .ref df, .int 0, .ref bl, .int 0, .int 0, .int 1, .int 0, .ref tr, .ref wk, .ref sd]))] H := hP
  have hD : va_D _ [(h, .inr (4, [.ref fo, .int 0, .int 0, .ref mn, .ref df, .int 0, .ref bl, .int 0, .int 0, .int 1, .int 0, .ref tr, .ref wk, .ref sd]))] := hD
  refine W.eq (g2 := F0 m 5 ls [.null]) rfl ?_
  refine lv_astore_nN (lv' := [(2, .null), (0, .ref h), (1, .int x)]) hx hb dX5_proof_5 rfl hl (by decide) rfl (fun ls hl => ?_)
  refine lv_aload_nN hx hb dX5_proof_6 rfl (lv_at hl 0 rfl) ?_
  refine lv_ifnonnullN hx hb dX5_proof_7 ?_
  exact th_IAE hx hb hl0 hown hlocks htb hE hZ hS (hl.1.trans hml.symm) tn_2_232 sx_143 dX5_proof_10 dX5_proof_13 dX5_proof_14 dX5_proof_16 dX5_proof_19 (by decide) (Nat.le_of_ble_eq_true rfl) (Nat.le_of_ble_eq_true rfl) (Nat.le_of_ble_eq_true rfl) rfl (by decide) (by decide)
set_option maxHeartbeats 4000000 in
set_option maxRecDepth 100000 in
theorem c_assume (l : Launch) (hl0 : l.stackTraces = false) (D : va_G) (sz : Nat) (h fo mn df bl tr wk sd : Nat) (x : Int32) : cX l yX5_assume (.code yX5_assume cX5_assume 3 (some .boolean)) 24 760 1 6 [.ref h, .int x] D [] [(h, .inr (4, [.ref fo, .int 0, .int 0, .ref mn, .ref df, .int 0, .ref bl, .int 0, .int 0, .int 1, .int 0, .ref tr, .ref wk, .ref sd]))] sz (S := Unit) (fun _ _ => False) (fun _ => []) (fun _ => []) (fun E => E = nIAE) := by
  refine cX_of (by decide) (Nat.le_of_ble_eq_true rfl) ?_
  intro p e s m below meth c ls hF hsz hP hK hD hE hZ hA hl
  obtain ⟨hx, hb, hr, hml, hown, hlocks, hnm, htb, hts⟩ := hF
  have hown : s.vm.findClass RX5 = some m.cls := hown
  have hl : lv_has ls 3 [(0, .ref h), (1, .int x)] := hl
  have hS : va_S (va_A [(h, .inr (4, [.ref fo, .int 0, .int 0, .ref mn, .ref df, .int 0, .ref bl, .int 0, .int 0, .int 1, .int 0, .ref tr, .ref wk, .ref sd]))] sz) s.heap s.heap [] := va_S.rf
  refine lv_aload_n hx hb dX5_assume_0 rfl (lv_at hl 0 rfl) ?_
  refine lv_iload_n hx hb dX5_assume_1 rfl (lv_at hl 1 rfl) ?_
  refine ck_run (wr := []) (va_runV (C := RX5) (As := [.int x]) (rest := []) ⟨hx, hb, hml, hown, hts⟩ (c_closedAt l D s.heap.size h fo mn df bl tr wk sd x) (cw_V (n := 1) hts tw_2_228 tw_2_230 tw_s22 tw_1_1 tw_2_231 (by decide +kernel) ⟨by decide, by decide⟩) ⟨pre.blind, va_recv (q := (RX5, TX5, 14)) hK hP (ci := 4) (q0 := 0) rfl rfl, fun U hU hW => ⟨rfl, pre.of (wc := [(h, .inr (4, [.ref fo, .int 0, .int 0, .ref mn, .ref df, .int 0, .ref bl, .int 0, .int 0, .int 1, .int 0, .ref tr, .ref wk, .ref sd]))]) (tysc := []) (tk := []) hP hD hK hS hA hE hZ [0] (by decide) rfl rfl rfl U hU hW⟩⟩ rfl rfl hl.1 rfl (lv_room (Nat.le_of_ble_eq_true rfl)) dX5_assume_2 ⟨by decide, by decide⟩) hP hD hK hS hA [0] [] rfl rfl (by decide) (by decide) (fun v u H locs hw hP hD hK9 hS => ?_)
  have hw : v = some (.null) := hw
  subst hw
  have hP : va_P D vwCl [(h, .inr (4, [.ref fo, .int 0, .int 0, .ref mn, .ref df, .int 0, .ref bl, .int 0, .int 0, .int 1, .int 0, .ref tr, .ref wk, .ref sd]))] H := hP
  have hD : va_D _ [(h, .inr (4, [.ref fo, .int 0, .int 0, .ref mn, .ref df, .int 0, .ref bl, .int 0, .int 0, .int 1, .int 0, .ref tr, .ref wk, .ref sd]))] := hD
  refine W.eq (g2 := F0 m 5 ls [.null]) rfl ?_
  refine lv_astore_nN (lv' := [(2, .null), (0, .ref h), (1, .int x)]) hx hb dX5_assume_5 rfl hl (by decide) rfl (fun ls hl => ?_)
  refine lv_aload_nN hx hb dX5_assume_6 rfl (lv_at hl 0 rfl) ?_
  refine lv_ifnonnullN hx hb dX5_assume_7 ?_
  exact th_IAE hx hb hl0 hown hlocks htb hE hZ hS (hl.1.trans hml.symm) tn_2_232 sx_143 dX5_assume_10 dX5_assume_13 dX5_assume_14 dX5_assume_16 dX5_assume_19 (by decide) (Nat.le_of_ble_eq_true rfl) (Nat.le_of_ble_eq_true rfl) (Nat.le_of_ble_eq_true rfl) rfl (by decide) (by decide)
set_option maxHeartbeats 4000000 in
set_option maxRecDepth 100000 in
theorem c_thus (l : Launch) (hl0 : l.stackTraces = false) (D : va_G) (sz : Nat) (h fo mn df bl tr wk sd : Nat) (x : Int32) : cX l yX5_thus (.code yX5_thus cX5_thus 3 (some .boolean)) 24 760 1 6 [.ref h, .int x] D [] [(h, .inr (4, [.ref fo, .int 0, .int 0, .ref mn, .ref df, .int 0, .ref bl, .int 0, .int 0, .int 1, .int 0, .ref tr, .ref wk, .ref sd]))] sz (S := Unit) (fun _ _ => False) (fun _ => []) (fun _ => []) (fun E => E = nIAE) := by
  refine cX_of (by decide) (Nat.le_of_ble_eq_true rfl) ?_
  intro p e s m below meth c ls hF hsz hP hK hD hE hZ hA hl
  obtain ⟨hx, hb, hr, hml, hown, hlocks, hnm, htb, hts⟩ := hF
  have hown : s.vm.findClass RX5 = some m.cls := hown
  have hl : lv_has ls 3 [(0, .ref h), (1, .int x)] := hl
  have hS : va_S (va_A [(h, .inr (4, [.ref fo, .int 0, .int 0, .ref mn, .ref df, .int 0, .ref bl, .int 0, .int 0, .int 1, .int 0, .ref tr, .ref wk, .ref sd]))] sz) s.heap s.heap [] := va_S.rf
  refine lv_aload_n hx hb dX5_thus_0 rfl (lv_at hl 0 rfl) ?_
  refine lv_iload_n hx hb dX5_thus_1 rfl (lv_at hl 1 rfl) ?_
  refine ck_run (wr := []) (va_runV (C := RX5) (As := [.int x]) (rest := []) ⟨hx, hb, hml, hown, hts⟩ (c_closedAt l D s.heap.size h fo mn df bl tr wk sd x) (cw_V (n := 1) hts tw_2_228 tw_2_230 tw_s22 tw_1_1 tw_2_231 (by decide +kernel) ⟨by decide, by decide⟩) ⟨pre.blind, va_recv (q := (RX5, TX5, 14)) hK hP (ci := 4) (q0 := 0) rfl rfl, fun U hU hW => ⟨rfl, pre.of (wc := [(h, .inr (4, [.ref fo, .int 0, .int 0, .ref mn, .ref df, .int 0, .ref bl, .int 0, .int 0, .int 1, .int 0, .ref tr, .ref wk, .ref sd]))]) (tysc := []) (tk := []) hP hD hK hS hA hE hZ [0] (by decide) rfl rfl rfl U hU hW⟩⟩ rfl rfl hl.1 rfl (lv_room (Nat.le_of_ble_eq_true rfl)) dX5_thus_2 ⟨by decide, by decide⟩) hP hD hK hS hA [0] [] rfl rfl (by decide) (by decide) (fun v u H locs hw hP hD hK9 hS => ?_)
  have hw : v = some (.null) := hw
  subst hw
  have hP : va_P D vwCl [(h, .inr (4, [.ref fo, .int 0, .int 0, .ref mn, .ref df, .int 0, .ref bl, .int 0, .int 0, .int 1, .int 0, .ref tr, .ref wk, .ref sd]))] H := hP
  have hD : va_D _ [(h, .inr (4, [.ref fo, .int 0, .int 0, .ref mn, .ref df, .int 0, .ref bl, .int 0, .int 0, .int 1, .int 0, .ref tr, .ref wk, .ref sd]))] := hD
  refine W.eq (g2 := F0 m 5 ls [.null]) rfl ?_
  refine lv_astore_nN (lv' := [(2, .null), (0, .ref h), (1, .int x)]) hx hb dX5_thus_5 rfl hl (by decide) rfl (fun ls hl => ?_)
  refine lv_aload_nN hx hb dX5_thus_6 rfl (lv_at hl 0 rfl) ?_
  refine lv_ifnonnullN hx hb dX5_thus_7 ?_
  exact th_IAE hx hb hl0 hown hlocks htb hE hZ hS (hl.1.trans hml.symm) tn_2_232 sx_143 dX5_thus_10 dX5_thus_13 dX5_thus_14 dX5_thus_16 dX5_thus_19 (by decide) (Nat.le_of_ble_eq_true rfl) (Nat.le_of_ble_eq_true rfl) (Nat.le_of_ble_eq_true rfl) rfl (by decide) (by decide)
set_option maxHeartbeats 4000000 in
set_option maxRecDepth 100000 in
theorem c_take (l : Launch) (hl0 : l.stackTraces = false) (D : va_G) (sz : Nat) (h fo mn df bl tr wk sd : Nat) (x : Int32) : cX l yX5_take (.code yX5_take cX5_take 4 (some .boolean)) 24 760 1 6 [.ref h, .int x] D [] [(h, .inr (4, [.ref fo, .int 0, .int 0, .ref mn, .ref df, .int 0, .ref bl, .int 0, .int 0, .int 1, .int 0, .ref tr, .ref wk, .ref sd]))] sz (S := Unit) (fun _ _ => False) (fun _ => []) (fun _ => []) (fun E => E = nIAE) := by
  refine cX_of (by decide) (Nat.le_of_ble_eq_true rfl) ?_
  intro p e s m below meth c ls hF hsz hP hK hD hE hZ hA hl
  obtain ⟨hx, hb, hr, hml, hown, hlocks, hnm, htb, hts⟩ := hF
  have hown : s.vm.findClass RX5 = some m.cls := hown
  have hl : lv_has ls 4 [(0, .ref h), (1, .int x)] := hl
  have hS : va_S (va_A [(h, .inr (4, [.ref fo, .int 0, .int 0, .ref mn, .ref df, .int 0, .ref bl, .int 0, .int 0, .int 1, .int 0, .ref tr, .ref wk, .ref sd]))] sz) s.heap s.heap [] := va_S.rf
  refine lv_aload_n hx hb dX5_take_0 rfl (lv_at hl 0 rfl) ?_
  refine lv_iload_n hx hb dX5_take_1 rfl (lv_at hl 1 rfl) ?_
  refine ck_run (wr := []) (va_runV (C := RX5) (As := [.int x]) (rest := []) ⟨hx, hb, hml, hown, hts⟩ (c_constantAt l D s.heap.size h fo mn df bl tr wk sd x) (cw_V (n := 1) hts tw_2_206 tw_2_208 tw_s21 tw_1_1 tw_2_209 (by decide +kernel) ⟨by decide, by decide⟩) ⟨pre.blind, va_recv (q := (RX5, TX5, 14)) hK hP (ci := 4) (q0 := 0) rfl rfl, fun U hU hW => ⟨rfl, pre.of (wc := [(h, .inr (4, [.ref fo, .int 0, .int 0, .ref mn, .ref df, .int 0, .ref bl, .int 0, .int 0, .int 1, .int 0, .ref tr, .ref wk, .ref sd]))]) (tysc := []) (tk := []) hP hD hK hS hA hE hZ [0] (by decide) rfl rfl rfl U hU hW⟩⟩ rfl rfl hl.1 rfl (lv_room (Nat.le_of_ble_eq_true rfl)) dX5_take_2 ⟨by decide, by decide⟩) hP hD hK hS hA [0] [] rfl rfl (by decide) (by decide) (fun v u H locs hw hP hD hK9 hS => ?_)
  have hw : v = some (.int (-1)) := hw
  subst hw
  have hP : va_P D vwCl [(h, .inr (4, [.ref fo, .int 0, .int 0, .ref mn, .ref df, .int 0, .ref bl, .int 0, .int 0, .int 1, .int 0, .ref tr, .ref wk, .ref sd]))] H := hP
  have hD : va_D _ [(h, .inr (4, [.ref fo, .int 0, .int 0, .ref mn, .ref df, .int 0, .ref bl, .int 0, .int 0, .int 1, .int 0, .ref tr, .ref wk, .ref sd]))] := hD
  refine W.eq (g2 := F0 m 5 ls [.int (-1)]) rfl ?_
  refine lv_istore_n (lv' := [(2, .int (-1)), (0, .ref h), (1, .int x)]) hx hb dX5_take_5 rfl hl (by decide) rfl (fun ls hl => ?_)
  refine lv_iload_n hx hb dX5_take_6 rfl (lv_at hl 0 rfl) ?_
  refine lv_iconst (v := (-1)) hx hb dX5_take_7 (by decide) ?_
  refine lv_icmp_ne (tgt := 21) hx hb dX5_take_8 (by decide) (fun c9 => absurd (by decide) c9) (fun _ => ?_)
  exact th_IAE hx hb hl0 hown hlocks htb hE hZ hS (hl.1.trans hml.symm) tn_3_137 sx_160 dX5_take_11 dX5_take_14 dX5_take_15 dX5_take_17 dX5_take_20 (by decide) (Nat.le_of_ble_eq_true rfl) (Nat.le_of_ble_eq_true rfl) (Nat.le_of_ble_eq_true rfl) rfl (by decide) (by decide)
set_option maxHeartbeats 4000000 in
set_option maxRecDepth 100000 in
theorem c_given (l : Launch) (hl0 : l.stackTraces = false) (D : va_G) (sz : Nat) (h fo mn df bl tr wk sd : Nat) (x y : Int32) : cX l yX5_given (.code yX5_given cX5_given 5 (some .boolean)) 24 760 1 6 [.ref h, .int x, .int y] D [] [(h, .inr (4, [.ref fo, .int 0, .int 0, .ref mn, .ref df, .int 0, .ref bl, .int 0, .int 0, .int 1, .int 0, .ref tr, .ref wk, .ref sd]))] sz (S := Unit) (fun _ _ => False) (fun _ => []) (fun _ => []) (fun E => E = nIAE) := by
  refine cX_of (by decide) (Nat.le_of_ble_eq_true rfl) ?_
  intro p e s m below meth c ls hF hsz hP hK hD hE hZ hA hl
  obtain ⟨hx, hb, hr, hml, hown, hlocks, hnm, htb, hts⟩ := hF
  have hown : s.vm.findClass RX5 = some m.cls := hown
  have hl : lv_has ls 5 [(0, .ref h), (1, .int x), (2, .int y)] := hl
  have hS : va_S (va_A [(h, .inr (4, [.ref fo, .int 0, .int 0, .ref mn, .ref df, .int 0, .ref bl, .int 0, .int 0, .int 1, .int 0, .ref tr, .ref wk, .ref sd]))] sz) s.heap s.heap [] := va_S.rf
  refine lv_aload_n hx hb dX5_given_0 rfl (lv_at hl 0 rfl) ?_
  refine lv_iload_n hx hb dX5_given_1 rfl (lv_at hl 1 rfl) ?_
  refine ck_run (wr := []) (va_runV (C := RX5) (As := [.int x]) (rest := []) ⟨hx, hb, hml, hown, hts⟩ (c_constantAt l D s.heap.size h fo mn df bl tr wk sd x) (cw_V (n := 1) hts tw_2_206 tw_2_208 tw_s21 tw_1_1 tw_2_209 (by decide +kernel) ⟨by decide, by decide⟩) ⟨pre.blind, va_recv (q := (RX5, TX5, 14)) hK hP (ci := 4) (q0 := 0) rfl rfl, fun U hU hW => ⟨rfl, pre.of (wc := [(h, .inr (4, [.ref fo, .int 0, .int 0, .ref mn, .ref df, .int 0, .ref bl, .int 0, .int 0, .int 1, .int 0, .ref tr, .ref wk, .ref sd]))]) (tysc := []) (tk := []) hP hD hK hS hA hE hZ [0] (by decide) rfl rfl rfl U hU hW⟩⟩ rfl rfl hl.1 rfl (lv_room (Nat.le_of_ble_eq_true rfl)) dX5_given_2 ⟨by decide, by decide⟩) hP hD hK hS hA [0] [] rfl rfl (by decide) (by decide) (fun v u H locs hw hP hD hK9 hS => ?_)
  have hw : v = some (.int (-1)) := hw
  subst hw
  have hP : va_P D vwCl [(h, .inr (4, [.ref fo, .int 0, .int 0, .ref mn, .ref df, .int 0, .ref bl, .int 0, .int 0, .int 1, .int 0, .ref tr, .ref wk, .ref sd]))] H := hP
  have hD : va_D _ [(h, .inr (4, [.ref fo, .int 0, .int 0, .ref mn, .ref df, .int 0, .ref bl, .int 0, .int 0, .int 1, .int 0, .ref tr, .ref wk, .ref sd]))] := hD
  refine W.eq (g2 := F0 m 5 ls [.int (-1)]) rfl ?_
  refine lv_istore_n (lv' := [(3, .int (-1)), (0, .ref h), (1, .int x), (2, .int y)]) hx hb dX5_given_5 rfl hl (by decide) rfl (fun ls hl => ?_)
  refine lv_aload_n hx hb dX5_given_6 rfl (lv_at hl 1 rfl) ?_
  refine lv_iload_n hx hb dX5_given_7 rfl (lv_at hl 3 rfl) ?_
  refine ck_run (wr := []) (va_runV (C := RX5) (As := [.int y]) (rest := []) ⟨hx, hb, hml, hown, hts⟩ (c_closedAt l D H.size h fo mn df bl tr wk sd y) (cw_V (n := 1) hts tw_2_228 tw_2_230 tw_s22 tw_1_1 tw_2_231 (by decide +kernel) ⟨by decide, by decide⟩) ⟨pre.blind, va_recv (q := (RX5, TX5, 14)) hK hP (ci := 4) (q0 := 0) rfl rfl, fun U hU hW => ⟨rfl, pre.of (wc := [(h, .inr (4, [.ref fo, .int 0, .int 0, .ref mn, .ref df, .int 0, .ref bl, .int 0, .int 0, .int 1, .int 0, .ref tr, .ref wk, .ref sd]))]) (tysc := []) (tk := []) hP hD hK hS hA hE hZ [0] (by decide) rfl rfl rfl U hU hW⟩⟩ rfl rfl hl.1 rfl (lv_room (Nat.le_of_ble_eq_true rfl)) dX5_given_8 ⟨by decide, by decide⟩) hP hD hK hS hA [0] [] rfl rfl (by decide) (by decide) (fun v u H locs hw hP hD hK9 hS => ?_)
  have hw : v = some (.null) := hw
  subst hw
  have hP : va_P D vwCl [(h, .inr (4, [.ref fo, .int 0, .int 0, .ref mn, .ref df, .int 0, .ref bl, .int 0, .int 0, .int 1, .int 0, .ref tr, .ref wk, .ref sd]))] H := hP
  have hD : va_D _ [(h, .inr (4, [.ref fo, .int 0, .int 0, .ref mn, .ref df, .int 0, .ref bl, .int 0, .int 0, .int 1, .int 0, .ref tr, .ref wk, .ref sd]))] := hD
  refine W.eq (g2 := F0 m 11 ls [.null]) rfl ?_
  refine lv_astoreN (lv' := [(4, .null), (3, .int (-1)), (0, .ref h), (1, .int x), (2, .int y)]) hx hb dX5_given_11 hl (by decide) rfl (fun ls hl => ?_)
  refine lv_iload_n hx hb dX5_given_13 rfl (lv_at hl 1 rfl) ?_
  refine lv_iconst (v := (-1)) hx hb dX5_given_14 (by decide) ?_
  refine lv_icmp_eq (tgt := 23) hx hb dX5_given_15 (by decide) (fun _ => ?_) (fun c9 => absurd (by decide) c9)
  exact th_IAE hx hb hl0 hown hlocks htb hE hZ hS (hl.1.trans hml.symm) tn_3_146 sx_167 dX5_given_23 dX5_given_26 dX5_given_27 dX5_given_29 dX5_given_32 (by decide) (Nat.le_of_ble_eq_true rfl) (Nat.le_of_ble_eq_true rfl) (Nat.le_of_ble_eq_true rfl) rfl (by decide) (by decide)
set_option maxHeartbeats 4000000 in
set_option maxRecDepth 100000 in
theorem c_suppose (l : Launch) (hl0 : l.stackTraces = false) (D : va_G) (sz : Nat) (h fo mn df bl tr wk sd : Nat) (x : Int32) : cX l yX5_suppose (.code yX5_suppose cX5_suppose 5 (some .int)) 24 760 1 6 [.ref h, .int x] D [] [(h, .inr (4, [.ref fo, .int 0, .int 0, .ref mn, .ref df, .int 0, .ref bl, .int 0, .int 0, .int 1, .int 0, .ref tr, .ref wk, .ref sd]))] sz (S := Unit) (fun _ _ => False) (fun _ => []) (fun _ => []) (fun E => E = nIAE) := by
  refine cX_of (by decide) (Nat.le_of_ble_eq_true rfl) ?_
  intro p e s m below meth c ls hF hsz hP hK hD hE hZ hA hl
  obtain ⟨hx, hb, hr, hml, hown, hlocks, hnm, htb, hts⟩ := hF
  have hown : s.vm.findClass RX5 = some m.cls := hown
  have hl : lv_has ls 5 [(0, .ref h), (1, .int x)] := hl
  have hS : va_S (va_A [(h, .inr (4, [.ref fo, .int 0, .int 0, .ref mn, .ref df, .int 0, .ref bl, .int 0, .int 0, .int 1, .int 0, .ref tr, .ref wk, .ref sd]))] sz) s.heap s.heap [] := va_S.rf
  refine lv_aload_n hx hb dX5_suppose_0 rfl (lv_at hl 0 rfl) ?_
  refine lv_iload_n hx hb dX5_suppose_1 rfl (lv_at hl 1 rfl) ?_
  refine ck_run (wr := []) (va_runV (C := RX5) (As := [.int x]) (rest := []) ⟨hx, hb, hml, hown, hts⟩ (c_closedAt l D s.heap.size h fo mn df bl tr wk sd x) (cw_V (n := 1) hts tw_2_228 tw_2_230 tw_s22 tw_1_1 tw_2_231 (by decide +kernel) ⟨by decide, by decide⟩) ⟨pre.blind, va_recv (q := (RX5, TX5, 14)) hK hP (ci := 4) (q0 := 0) rfl rfl, fun U hU hW => ⟨rfl, pre.of (wc := [(h, .inr (4, [.ref fo, .int 0, .int 0, .ref mn, .ref df, .int 0, .ref bl, .int 0, .int 0, .int 1, .int 0, .ref tr, .ref wk, .ref sd]))]) (tysc := []) (tk := []) hP hD hK hS hA hE hZ [0] (by decide) rfl rfl rfl U hU hW⟩⟩ rfl rfl hl.1 rfl (lv_room (Nat.le_of_ble_eq_true rfl)) dX5_suppose_2 ⟨by decide, by decide⟩) hP hD hK hS hA [0] [] rfl rfl (by decide) (by decide) (fun v u H locs hw hP hD hK9 hS => ?_)
  have hw : v = some (.null) := hw
  subst hw
  have hP : va_P D vwCl [(h, .inr (4, [.ref fo, .int 0, .int 0, .ref mn, .ref df, .int 0, .ref bl, .int 0, .int 0, .int 1, .int 0, .ref tr, .ref wk, .ref sd]))] H := hP
  have hD : va_D _ [(h, .inr (4, [.ref fo, .int 0, .int 0, .ref mn, .ref df, .int 0, .ref bl, .int 0, .int 0, .int 1, .int 0, .ref tr, .ref wk, .ref sd]))] := hD
  refine W.eq (g2 := F0 m 5 ls [.null]) rfl ?_
  refine lv_astore_nN (lv' := [(2, .null), (0, .ref h), (1, .int x)]) hx hb dX5_suppose_5 rfl hl (by decide) rfl (fun ls hl => ?_)
  refine lv_aload_nN hx hb dX5_suppose_6 rfl (lv_at hl 0 rfl) ?_
  refine lv_ifnonnullN hx hb dX5_suppose_7 ?_
  exact th_IAE hx hb hl0 hown hlocks htb hE hZ hS (hl.1.trans hml.symm) tn_2_232 sx_143 dX5_suppose_10 dX5_suppose_13 dX5_suppose_14 dX5_suppose_16 dX5_suppose_19 (by decide) (Nat.le_of_ble_eq_true rfl) (Nat.le_of_ble_eq_true rfl) (Nat.le_of_ble_eq_true rfl) rfl (by decide) (by decide)
set_option maxHeartbeats 4000000 in
set_option maxRecDepth 100000 in
theorem c_cases (l : Launch) (hl0 : l.stackTraces = false) (D : va_G) (sz : Nat) (h fo mn df bl tr wk sd : Nat) : cX l yX5_cases (.code yX5_cases cX5_cases 2 none) 24 760 1 6 [.ref h] D [] [(h, .inr (4, [.ref fo, .int 0, .int 0, .ref mn, .ref df, .int 0, .ref bl, .int 0, .int 0, .int 1, .int 0, .ref tr, .ref wk, .ref sd]))] sz (S := Unit) (fun _ _ => False) (fun _ => []) (fun _ => []) (fun E => E = nISE) := by
  refine cX_of (by decide) (Nat.le_of_ble_eq_true rfl) ?_
  intro p e s m below meth c ls hF hsz hP hK hD hE hZ hA hl
  obtain ⟨hx, hb, hr, hml, hown, hlocks, hnm, htb, hts⟩ := hF
  have hown : s.vm.findClass RX5 = some m.cls := hown
  have hl : lv_has ls 2 [(0, .ref h)] := hl
  have hS : va_S (va_A [(h, .inr (4, [.ref fo, .int 0, .int 0, .ref mn, .ref df, .int 0, .ref bl, .int 0, .int 0, .int 1, .int 0, .ref tr, .ref wk, .ref sd]))] sz) s.heap s.heap [] := va_S.rf
  refine lv_aload_n hx hb dX5_cases_0 rfl (lv_at hl 0 rfl) ?_
  refine ck_run (wr := []) (va_runV (C := RX5) (As := []) (rest := []) ⟨hx, hb, hml, hown, hts⟩ (c_openBlock l D s.heap.size h fo mn df bl tr wk sd) (cw_V (n := 0) hts tw_2_237 tw_2_239 tw_s24 tw_1_1 tw_3_0 (by decide +kernel) ⟨by decide, by decide⟩) ⟨pre.blind, va_recv (q := (RX5, TX5, 14)) hK hP (ci := 4) (q0 := 0) rfl rfl, fun U hU hW => ⟨rfl, pre.of (wc := [(h, .inr (4, [.ref fo, .int 0, .int 0, .ref mn, .ref df, .int 0, .ref bl, .int 0, .int 0, .int 1, .int 0, .ref tr, .ref wk, .ref sd]))]) (tysc := []) (tk := []) hP hD hK hS hA hE hZ [0] (by decide) rfl rfl rfl U hU hW⟩⟩ rfl rfl hl.1 rfl (lv_room (Nat.le_of_ble_eq_true rfl)) dX5_cases_1 ⟨by decide, by decide⟩) hP hD hK hS hA [0] [] rfl rfl (by decide) (by decide) (fun v u H locs hw hP hD hK9 hS => ?_)
  have hw : v = some (.null) := hw
  subst hw
  have hP : va_P D vwCl [(h, .inr (4, [.ref fo, .int 0, .int 0, .ref mn, .ref df, .int 0, .ref bl, .int 0, .int 0, .int 1, .int 0, .ref tr, .ref wk, .ref sd]))] H := hP
  have hD : va_D _ [(h, .inr (4, [.ref fo, .int 0, .int 0, .ref mn, .ref df, .int 0, .ref bl, .int 0, .int 0, .int 1, .int 0, .ref tr, .ref wk, .ref sd]))] := hD
  refine W.eq (g2 := F0 m 4 ls [.null]) rfl ?_
  refine lv_astore_nN (lv' := [(1, .null), (0, .ref h)]) hx hb dX5_cases_4 rfl hl (by decide) rfl (fun ls hl => ?_)
  refine lv_aload_nN hx hb dX5_cases_5 rfl (lv_at hl 0 rfl) ?_
  refine lv_ifnullN (tgt := 24) hx hb dX5_cases_6 (by decide) ?_
  exact th_ISE hx hb hl0 hown hlocks htb hE hZ hS (hl.1.trans hml.symm) tn_3_154 sx_175 dX5_cases_24 dX5_cases_27 dX5_cases_28 dX5_cases_30 dX5_cases_33 (by decide) (Nat.le_of_ble_eq_true rfl) (Nat.le_of_ble_eq_true rfl) (Nat.le_of_ble_eq_true rfl) rfl (by decide) (by decide)
set_option maxHeartbeats 4000000 in
set_option maxRecDepth 100000 in
theorem c_end (l : Launch) (hl0 : l.stackTraces = false) (D : va_G) (sz : Nat) (h fo mn df bl tr wk sd : Nat) : cX l yX5_end (.code yX5_end cX5_end 3 (some .int)) 24 760 1 6 [.ref h] D [] [(h, .inr (4, [.ref fo, .int 0, .int 0, .ref mn, .ref df, .int 0, .ref bl, .int 0, .int 0, .int 1, .int 0, .ref tr, .ref wk, .ref sd]))] sz (S := Unit) (fun _ _ => False) (fun _ => []) (fun _ => []) (fun E => E = nISE) := by
  refine cX_of (by decide) (Nat.le_of_ble_eq_true rfl) ?_
  intro p e s m below meth c ls hF hsz hP hK hD hE hZ hA hl
  obtain ⟨hx, hb, hr, hml, hown, hlocks, hnm, htb, hts⟩ := hF
  have hown : s.vm.findClass RX5 = some m.cls := hown
  have hl : lv_has ls 3 [(0, .ref h)] := hl
  have hS : va_S (va_A [(h, .inr (4, [.ref fo, .int 0, .int 0, .ref mn, .ref df, .int 0, .ref bl, .int 0, .int 0, .int 1, .int 0, .ref tr, .ref wk, .ref sd]))] sz) s.heap s.heap [] := va_S.rf
  refine lv_aload_n hx hb dX5_end_0 rfl (lv_at hl 0 rfl) ?_
  refine ck_run (wr := []) (va_runV (C := RX5) (As := []) (rest := []) ⟨hx, hb, hml, hown, hts⟩ (c_openBlock l D s.heap.size h fo mn df bl tr wk sd) (cw_V (n := 0) hts tw_2_237 tw_2_239 tw_s24 tw_1_1 tw_3_0 (by decide +kernel) ⟨by decide, by decide⟩) ⟨pre.blind, va_recv (q := (RX5, TX5, 14)) hK hP (ci := 4) (q0 := 0) rfl rfl, fun U hU hW => ⟨rfl, pre.of (wc := [(h, .inr (4, [.ref fo, .int 0, .int 0, .ref mn, .ref df, .int 0, .ref bl, .int 0, .int 0, .int 1, .int 0, .ref tr, .ref wk, .ref sd]))]) (tysc := []) (tk := []) hP hD hK hS hA hE hZ [0] (by decide) rfl rfl rfl U hU hW⟩⟩ rfl rfl hl.1 rfl (lv_room (Nat.le_of_ble_eq_true rfl)) dX5_end_1 ⟨by decide, by decide⟩) hP hD hK hS hA [0] [] rfl rfl (by decide) (by decide) (fun v u H locs hw hP hD hK9 hS => ?_)
  have hw : v = some (.null) := hw
  subst hw
  have hP : va_P D vwCl [(h, .inr (4, [.ref fo, .int 0, .int 0, .ref mn, .ref df, .int 0, .ref bl, .int 0, .int 0, .int 1, .int 0, .ref tr, .ref wk, .ref sd]))] H := hP
  have hD : va_D _ [(h, .inr (4, [.ref fo, .int 0, .int 0, .ref mn, .ref df, .int 0, .ref bl, .int 0, .int 0, .int 1, .int 0, .ref tr, .ref wk, .ref sd]))] := hD
  refine W.eq (g2 := F0 m 4 ls [.null]) rfl ?_
  refine lv_astore_nN (lv' := [(1, .null), (0, .ref h)]) hx hb dX5_end_4 rfl hl (by decide) rfl (fun ls hl => ?_)
  refine lv_aload_nN hx hb dX5_end_5 rfl (lv_at hl 0 rfl) ?_
  refine lv_ifnonnullN hx hb dX5_end_6 ?_
  exact th_ISE hx hb hl0 hown hlocks htb hE hZ hS (hl.1.trans hml.symm) tn_3_174 sx_190 dX5_end_9 dX5_end_12 dX5_end_13 dX5_end_15 dX5_end_18 (by decide) (Nat.le_of_ble_eq_true rfl) (Nat.le_of_ble_eq_true rfl) (Nat.le_of_ble_eq_true rfl) rfl (by decide) (by decide)
set_option maxHeartbeats 4000000 in
set_option maxRecDepth 100000 in
theorem c_thesis (l : Launch) (hl0 : l.stackTraces = false) (D : va_G) (sz : Nat) (h fo mn df bl tr wk sd : Nat) : cX l yX5_thesis (.code yX5_thesis cX5_thesis 2 (some .int)) 24 760 1 6 [.ref h] D [] [(h, .inr (4, [.ref fo, .int 0, .int 0, .ref mn, .ref df, .int 0, .ref bl, .int 0, .int 0, .int 1, .int 0, .ref tr, .ref wk, .ref sd]))] sz (S := Unit) (fun _ _ => False) (fun _ => []) (fun _ => []) (fun E => E = nISE) := by
  refine cX_of (by decide) (Nat.le_of_ble_eq_true rfl) ?_
  intro p e s m below meth c ls hF hsz hP hK hD hE hZ hA hl
  obtain ⟨hx, hb, hr, hml, hown, hlocks, hnm, htb, hts⟩ := hF
  have hown : s.vm.findClass RX5 = some m.cls := hown
  have hl : lv_has ls 2 [(0, .ref h)] := hl
  have hS : va_S (va_A [(h, .inr (4, [.ref fo, .int 0, .int 0, .ref mn, .ref df, .int 0, .ref bl, .int 0, .int 0, .int 1, .int 0, .ref tr, .ref wk, .ref sd]))] sz) s.heap s.heap [] := va_S.rf
  refine lv_aload_n hx hb dX5_thesis_0 rfl (lv_at hl 0 rfl) ?_
  refine ck_run (wr := []) (va_runV (C := RX5) (As := []) (rest := []) ⟨hx, hb, hml, hown, hts⟩ (c_openBlock l D s.heap.size h fo mn df bl tr wk sd) (cw_V (n := 0) hts tw_2_237 tw_2_239 tw_s24 tw_1_1 tw_3_0 (by decide +kernel) ⟨by decide, by decide⟩) ⟨pre.blind, va_recv (q := (RX5, TX5, 14)) hK hP (ci := 4) (q0 := 0) rfl rfl, fun U hU hW => ⟨rfl, pre.of (wc := [(h, .inr (4, [.ref fo, .int 0, .int 0, .ref mn, .ref df, .int 0, .ref bl, .int 0, .int 0, .int 1, .int 0, .ref tr, .ref wk, .ref sd]))]) (tysc := []) (tk := []) hP hD hK hS hA hE hZ [0] (by decide) rfl rfl rfl U hU hW⟩⟩ rfl rfl hl.1 rfl (lv_room (Nat.le_of_ble_eq_true rfl)) dX5_thesis_1 ⟨by decide, by decide⟩) hP hD hK hS hA [0] [] rfl rfl (by decide) (by decide) (fun v u H locs hw hP hD hK9 hS => ?_)
  have hw : v = some (.null) := hw
  subst hw
  have hP : va_P D vwCl [(h, .inr (4, [.ref fo, .int 0, .int 0, .ref mn, .ref df, .int 0, .ref bl, .int 0, .int 0, .int 1, .int 0, .ref tr, .ref wk, .ref sd]))] H := hP
  have hD : va_D _ [(h, .inr (4, [.ref fo, .int 0, .int 0, .ref mn, .ref df, .int 0, .ref bl, .int 0, .int 0, .int 1, .int 0, .ref tr, .ref wk, .ref sd]))] := hD
  refine W.eq (g2 := F0 m 4 ls [.null]) rfl ?_
  refine lv_astore_nN (lv' := [(1, .null), (0, .ref h)]) hx hb dX5_thesis_4 rfl hl (by decide) rfl (fun ls hl => ?_)
  refine lv_aload_nN hx hb dX5_thesis_5 rfl (lv_at hl 0 rfl) ?_
  refine lv_ifnonnullN hx hb dX5_thesis_6 ?_
  exact th_ISE hx hb hl0 hown hlocks htb hE hZ hS (hl.1.trans hml.symm) tn_3_174 sx_190 dX5_thesis_9 dX5_thesis_12 dX5_thesis_13 dX5_thesis_15 dX5_thesis_18 (by decide) (Nat.le_of_ble_eq_true rfl) (Nat.le_of_ble_eq_true rfl) (Nat.le_of_ble_eq_true rfl) rfl (by decide) (by decide)
set_option maxHeartbeats 4000000 in
set_option maxRecDepth 100000 in
theorem c_blockForStep (l : Launch) (hl0 : l.stackTraces = false) (D : va_G) (sz : Nat) (h fo mn df bl tr wk sd : Nat) : cX l yX5_blockForStep (.code yX5_blockForStep cX5_blockForStep 2 (some (.object "ThesisDesk$Block"))) 20 620 1 6 [.ref h] D [] [(h, .inr (4, [.ref fo, .int 0, .int 0, .ref mn, .ref df, .int 0, .ref bl, .int 0, .int 0, .int 1, .int 0, .ref tr, .ref wk, .ref sd]))] sz (S := Unit) (fun _ _ => False) (fun _ => []) (fun _ => []) (fun E => E = nISE) := by
  refine cX_of (by decide) (Nat.le_of_ble_eq_true rfl) ?_
  intro p e s m below meth c ls hF hsz hP hK hD hE hZ hA hl
  obtain ⟨hx, hb, hr, hml, hown, hlocks, hnm, htb, hts⟩ := hF
  have hown : s.vm.findClass RX5 = some m.cls := hown
  have hl : lv_has ls 2 [(0, .ref h)] := hl
  have hS : va_S (va_A [(h, .inr (4, [.ref fo, .int 0, .int 0, .ref mn, .ref df, .int 0, .ref bl, .int 0, .int 0, .int 1, .int 0, .ref tr, .ref wk, .ref sd]))] sz) s.heap s.heap [] := va_S.rf
  refine lv_aload_n hx hb dX5_blockForStep_0 rfl (lv_at hl 0 rfl) ?_
  refine ck_run (wr := []) (va_runV (C := RX5) (As := []) (rest := []) ⟨hx, hb, hml, hown, hts⟩ (c_openBlock l D s.heap.size h fo mn df bl tr wk sd) (cw_V (n := 0) hts tw_2_237 tw_2_239 tw_s24 tw_1_1 tw_3_0 (by decide +kernel) ⟨by decide, by decide⟩) ⟨pre.blind, va_recv (q := (RX5, TX5, 14)) hK hP (ci := 4) (q0 := 0) rfl rfl, fun U hU hW => ⟨rfl, pre.of (wc := [(h, .inr (4, [.ref fo, .int 0, .int 0, .ref mn, .ref df, .int 0, .ref bl, .int 0, .int 0, .int 1, .int 0, .ref tr, .ref wk, .ref sd]))]) (tysc := []) (tk := []) hP hD hK hS hA hE hZ [0] (by decide) rfl rfl rfl U hU hW⟩⟩ rfl rfl hl.1 rfl (lv_room (Nat.le_of_ble_eq_true rfl)) dX5_blockForStep_1 ⟨by decide, by decide⟩) hP hD hK hS hA [0] [] rfl rfl (by decide) (by decide) (fun v u H locs hw hP hD hK9 hS => ?_)
  have hw : v = some (.null) := hw
  subst hw
  have hP : va_P D vwCl [(h, .inr (4, [.ref fo, .int 0, .int 0, .ref mn, .ref df, .int 0, .ref bl, .int 0, .int 0, .int 1, .int 0, .ref tr, .ref wk, .ref sd]))] H := hP
  have hD : va_D _ [(h, .inr (4, [.ref fo, .int 0, .int 0, .ref mn, .ref df, .int 0, .ref bl, .int 0, .int 0, .int 1, .int 0, .ref tr, .ref wk, .ref sd]))] := hD
  refine W.eq (g2 := F0 m 4 ls [.null]) rfl ?_
  refine lv_astore_nN (lv' := [(1, .null), (0, .ref h)]) hx hb dX5_blockForStep_4 rfl hl (by decide) rfl (fun ls hl => ?_)
  refine lv_aload_nN hx hb dX5_blockForStep_5 rfl (lv_at hl 0 rfl) ?_
  refine lv_ifnullN (tgt := 16) hx hb dX5_blockForStep_6 (by decide) ?_
  exact th_ISEw hx hb hl0 hown hlocks htb hE hZ hS (hl.1.trans hml.symm) tn_3_29 sx_326 dX5_blockForStep_16 dX5_blockForStep_19 dX5_blockForStep_20 dX5_blockForStep_23 dX5_blockForStep_26 (by decide) (Nat.le_of_ble_eq_true rfl) (Nat.le_of_ble_eq_true rfl) (Nat.le_of_ble_eq_true rfl) rfl (by decide) (by decide)
set_option maxHeartbeats 4000000 in
set_option maxRecDepth 100000 in
theorem c_waitingBlock (l : Launch) (hl0 : l.stackTraces = false) (D : va_G) (sz : Nat) (h fo mn df bl tr wk sd : Nat) : cX l yX5_waitingBlock (.code yX5_waitingBlock cX5_waitingBlock 2 (some (.object "ThesisDesk$Block"))) 20 620 1 6 [.ref h] D [] [(h, .inr (4, [.ref fo, .int 0, .int 0, .ref mn, .ref df, .int 0, .ref bl, .int 0, .int 0, .int 1, .int 0, .ref tr, .ref wk, .ref sd]))] sz (S := Unit) (fun _ _ => False) (fun _ => []) (fun _ => []) (fun E => E = nISE) := by
  refine cX_of (by decide) (Nat.le_of_ble_eq_true rfl) ?_
  intro p e s m below meth c ls hF hsz hP hK hD hE hZ hA hl
  obtain ⟨hx, hb, hr, hml, hown, hlocks, hnm, htb, hts⟩ := hF
  have hown : s.vm.findClass RX5 = some m.cls := hown
  have hl : lv_has ls 2 [(0, .ref h)] := hl
  have hS : va_S (va_A [(h, .inr (4, [.ref fo, .int 0, .int 0, .ref mn, .ref df, .int 0, .ref bl, .int 0, .int 0, .int 1, .int 0, .ref tr, .ref wk, .ref sd]))] sz) s.heap s.heap [] := va_S.rf
  refine lv_aload_n hx hb dX5_waitingBlock_0 rfl (lv_at hl 0 rfl) ?_
  refine ck_run (wr := []) (va_runV (C := RX5) (As := []) (rest := []) ⟨hx, hb, hml, hown, hts⟩ (c_openBlock l D s.heap.size h fo mn df bl tr wk sd) (cw_V (n := 0) hts tw_2_237 tw_2_239 tw_s24 tw_1_1 tw_3_0 (by decide +kernel) ⟨by decide, by decide⟩) ⟨pre.blind, va_recv (q := (RX5, TX5, 14)) hK hP (ci := 4) (q0 := 0) rfl rfl, fun U hU hW => ⟨rfl, pre.of (wc := [(h, .inr (4, [.ref fo, .int 0, .int 0, .ref mn, .ref df, .int 0, .ref bl, .int 0, .int 0, .int 1, .int 0, .ref tr, .ref wk, .ref sd]))]) (tysc := []) (tk := []) hP hD hK hS hA hE hZ [0] (by decide) rfl rfl rfl U hU hW⟩⟩ rfl rfl hl.1 rfl (lv_room (Nat.le_of_ble_eq_true rfl)) dX5_waitingBlock_1 ⟨by decide, by decide⟩) hP hD hK hS hA [0] [] rfl rfl (by decide) (by decide) (fun v u H locs hw hP hD hK9 hS => ?_)
  have hw : v = some (.null) := hw
  subst hw
  have hP : va_P D vwCl [(h, .inr (4, [.ref fo, .int 0, .int 0, .ref mn, .ref df, .int 0, .ref bl, .int 0, .int 0, .int 1, .int 0, .ref tr, .ref wk, .ref sd]))] H := hP
  have hD : va_D _ [(h, .inr (4, [.ref fo, .int 0, .int 0, .ref mn, .ref df, .int 0, .ref bl, .int 0, .int 0, .int 1, .int 0, .ref tr, .ref wk, .ref sd]))] := hD
  refine W.eq (g2 := F0 m 4 ls [.null]) rfl ?_
  refine lv_astore_nN (lv' := [(1, .null), (0, .ref h)]) hx hb dX5_waitingBlock_4 rfl hl (by decide) rfl (fun ls hl => ?_)
  refine lv_aload_nN hx hb dX5_waitingBlock_5 rfl (lv_at hl 0 rfl) ?_
  refine lv_ifnullN (tgt := 16) hx hb dX5_waitingBlock_6 (by decide) ?_
  exact th_ISEw hx hb hl0 hown hlocks htb hE hZ hS (hl.1.trans hml.symm) tn_3_166 sx_299 dX5_waitingBlock_16 dX5_waitingBlock_19 dX5_waitingBlock_20 dX5_waitingBlock_23 dX5_waitingBlock_26 (by decide) (Nat.le_of_ble_eq_true rfl) (Nat.le_of_ble_eq_true rfl) (Nat.le_of_ble_eq_true rfl) rfl (by decide) (by decide)
set_option maxHeartbeats 4000000 in
set_option maxRecDepth 100000 in
theorem c_let (l : Launch) (hl0 : l.stackTraces = false) (D : va_G) (sz : Nat) (h fo mn df bl tr wk sd : Nat) : cX l yX5_let (.code yX5_let cX5_let 3 (some .int)) 24 760 1 6 [.ref h] D [] [(h, .inr (4, [.ref fo, .int 0, .int 0, .ref mn, .ref df, .int 0, .ref bl, .int 0, .int 0, .int 1, .int 0, .ref tr, .ref wk, .ref sd]))] sz (S := Unit) (fun _ _ => False) (fun _ => []) (fun _ => []) (fun E => E = nISE) := by
  refine cX_of (by decide) (Nat.le_of_ble_eq_true rfl) ?_
  intro p e s m below meth c ls hF hsz hP hK hD hE hZ hA hl
  obtain ⟨hx, hb, hr, hml, hown, hlocks, hnm, htb, hts⟩ := hF
  have hown : s.vm.findClass RX5 = some m.cls := hown
  have hl : lv_has ls 3 [(0, .ref h)] := hl
  have hS : va_S (va_A [(h, .inr (4, [.ref fo, .int 0, .int 0, .ref mn, .ref df, .int 0, .ref bl, .int 0, .int 0, .int 1, .int 0, .ref tr, .ref wk, .ref sd]))] sz) s.heap s.heap [] := va_S.rf
  refine lv_aload_n hx hb dX5_let_0 rfl (lv_at hl 0 rfl) ?_
  refine cx_run (wr := []) (vx_runV (C := RX5) (As := []) (rest := []) ⟨hx, hb, hml, hown, hts⟩ (c_blockForStep l hl0 D s.heap.size h fo mn df bl tr wk sd) (cw_V (n := 0) hts tw_3_25 tw_3_27 tw_s26 tw_1_1 tw_3_28 (by decide +kernel) ⟨by decide, by decide⟩) ⟨pre.blind, va_recv (q := (RX5, TX5, 14)) hK hP (ci := 4) (q0 := 0) rfl rfl, fun U hU hW => ⟨rfl, pre.of (wc := [(h, .inr (4, [.ref fo, .int 0, .int 0, .ref mn, .ref df, .int 0, .ref bl, .int 0, .int 0, .int 1, .int 0, .ref tr, .ref wk, .ref sd]))]) (tysc := []) (tk := []) hP hD hK hS hA hE hZ [0] (by decide) rfl rfl rfl U hU hW⟩⟩ rfl rfl hl.1 rfl (lv_room (Nat.le_of_ble_eq_true rfl)) dX5_let_1 ⟨by decide, by decide⟩) hP hD hK hS hA [0] [] rfl rfl (by decide) (by decide) (fun E ce q9 H locs hxE hP hD hS hce hcv hcl => ?_) (fun v u H locs hw _ _ _ _ => False.elim hw)
  exact vx_out (by rw [htb]; exact fun _ h => nomatch h) hlocks hce hcv hcl (fun t ht hv => ⟨hxE, hS.F ht⟩) hS.2.2 (by decide) (by decide)
set_option maxHeartbeats 4000000 in
set_option maxRecDepth 100000 in
theorem c_ways (l : Launch) (hl0 : l.stackTraces = false) (D : va_G) (sz : Nat) (h fo mn df bl tr wk sd : Nat) : cX l yX5_ways (.code yX5_ways cX5_ways 3 (some .int)) 24 760 1 6 [.ref h] D [] [(h, .inr (4, [.ref fo, .int 0, .int 0, .ref mn, .ref df, .int 0, .ref bl, .int 0, .int 0, .int 1, .int 0, .ref tr, .ref wk, .ref sd]))] sz (S := Unit) (fun _ _ => False) (fun _ => []) (fun _ => []) (fun E => E = nISE) := by
  refine cX_of (by decide) (Nat.le_of_ble_eq_true rfl) ?_
  intro p e s m below meth c ls hF hsz hP hK hD hE hZ hA hl
  obtain ⟨hx, hb, hr, hml, hown, hlocks, hnm, htb, hts⟩ := hF
  have hown : s.vm.findClass RX5 = some m.cls := hown
  have hl : lv_has ls 3 [(0, .ref h)] := hl
  have hS : va_S (va_A [(h, .inr (4, [.ref fo, .int 0, .int 0, .ref mn, .ref df, .int 0, .ref bl, .int 0, .int 0, .int 1, .int 0, .ref tr, .ref wk, .ref sd]))] sz) s.heap s.heap [] := va_S.rf
  refine lv_aload_n hx hb dX5_ways_0 rfl (lv_at hl 0 rfl) ?_
  refine cx_run (wr := []) (vx_runV (C := RX5) (As := []) (rest := []) ⟨hx, hb, hml, hown, hts⟩ (c_waitingBlock l hl0 D s.heap.size h fo mn df bl tr wk sd) (cw_V (n := 0) hts tw_3_162 tw_3_164 tw_s37 tw_1_1 tw_3_165 (by decide +kernel) ⟨by decide, by decide⟩) ⟨pre.blind, va_recv (q := (RX5, TX5, 14)) hK hP (ci := 4) (q0 := 0) rfl rfl, fun U hU hW => ⟨rfl, pre.of (wc := [(h, .inr (4, [.ref fo, .int 0, .int 0, .ref mn, .ref df, .int 0, .ref bl, .int 0, .int 0, .int 1, .int 0, .ref tr, .ref wk, .ref sd]))]) (tysc := []) (tk := []) hP hD hK hS hA hE hZ [0] (by decide) rfl rfl rfl U hU hW⟩⟩ rfl rfl hl.1 rfl (lv_room (Nat.le_of_ble_eq_true rfl)) dX5_ways_1 ⟨by decide, by decide⟩) hP hD hK hS hA [0] [] rfl rfl (by decide) (by decide) (fun E ce q9 H locs hxE hP hD hS hce hcv hcl => ?_) (fun v u H locs hw _ _ _ _ => False.elim hw)
  exact vx_out (by rw [htb]; exact fun _ h => nomatch h) hlocks hce hcv hcl (fun t ht hv => ⟨hxE, hS.F ht⟩) hS.2.2 (by decide) (by decide)
set_option maxHeartbeats 4000000 in
set_option maxRecDepth 100000 in
theorem c_about (l : Launch) (hl0 : l.stackTraces = false) (D : va_G) (sz : Nat) (h fo mn df bl tr wk sd : Nat) (x y : Int32) : cX l yX5_about (.code yX5_about cX5_about 4 (some .int)) 24 760 1 6 [.ref h, .int x, .int y] D [] [(h, .inr (4, [.ref fo, .int 0, .int 0, .ref mn, .ref df, .int 0, .ref bl, .int 0, .int 0, .int 1, .int 0, .ref tr, .ref wk, .ref sd]))] sz (S := Unit) (fun _ _ => False) (fun _ => []) (fun _ => []) (fun E => E = nIAE) := by
  refine cX_of (by decide) (Nat.le_of_ble_eq_true rfl) ?_
  intro p e s m below meth c ls hF hsz hP hK hD hE hZ hA hl
  obtain ⟨hx, hb, hr, hml, hown, hlocks, hnm, htb, hts⟩ := hF
  have hown : s.vm.findClass RX5 = some m.cls := hown
  have hl : lv_has ls 4 [(0, .ref h), (1, .int x), (2, .int y)] := hl
  have hS : va_S (va_A [(h, .inr (4, [.ref fo, .int 0, .int 0, .ref mn, .ref df, .int 0, .ref bl, .int 0, .int 0, .int 1, .int 0, .ref tr, .ref wk, .ref sd]))] sz) s.heap s.heap [] := va_S.rf
  refine lv_aload_n hx hb dX5_about_0 rfl (lv_at hl 0 rfl) ?_
  refine lv_iload_n hx hb dX5_about_1 rfl (lv_at hl 1 rfl) ?_
  refine ck_run (wr := []) (va_runV (C := RX5) (As := [.int x]) (rest := []) ⟨hx, hb, hml, hown, hts⟩ (c_formAt l D s.heap.size h fo mn df bl tr wk sd x) (cw_V (n := 1) hts tw_2_31 tw_2_33 tw_s3 tw_1_1 tw_2_34 (by decide +kernel) ⟨by decide, by decide⟩) ⟨pre.blind, va_recv (q := (RX5, TX5, 14)) hK hP (ci := 4) (q0 := 0) rfl rfl, fun U hU hW => ⟨rfl, pre.of (wc := [(h, .inr (4, [.ref fo, .int 0, .int 0, .ref mn, .ref df, .int 0, .ref bl, .int 0, .int 0, .int 1, .int 0, .ref tr, .ref wk, .ref sd]))]) (tysc := []) (tk := []) hP hD hK hS hA hE hZ [0] (by decide) rfl rfl rfl U hU hW⟩⟩ rfl rfl hl.1 rfl (lv_room (Nat.le_of_ble_eq_true rfl)) dX5_about_2 ⟨by decide, by decide⟩) hP hD hK hS hA [0] [] rfl rfl (by decide) (by decide) (fun v u H locs hw hP hD hK9 hS => ?_)
  have hw : v = some (.null) := hw
  subst hw
  have hP : va_P D vwCl [(h, .inr (4, [.ref fo, .int 0, .int 0, .ref mn, .ref df, .int 0, .ref bl, .int 0, .int 0, .int 1, .int 0, .ref tr, .ref wk, .ref sd]))] H := hP
  have hD : va_D _ [(h, .inr (4, [.ref fo, .int 0, .int 0, .ref mn, .ref df, .int 0, .ref bl, .int 0, .int 0, .int 1, .int 0, .ref tr, .ref wk, .ref sd]))] := hD
  refine W.eq (g2 := F0 m 5 ls [.null]) rfl ?_
  refine lv_astore_nN (lv' := [(3, .null), (0, .ref h), (1, .int x), (2, .int y)]) hx hb dX5_about_5 rfl hl (by decide) rfl (fun ls hl => ?_)
  refine lv_aload_nN hx hb dX5_about_6 rfl (lv_at hl 0 rfl) ?_
  refine lv_ifnonnullN hx hb dX5_about_7 ?_
  exact th_IAE hx hb hl0 hown hlocks htb hE hZ hS (hl.1.trans hml.symm) tn_3_213 sx_229 dX5_about_10 dX5_about_13 dX5_about_14 dX5_about_16 dX5_about_19 (by decide) (Nat.le_of_ble_eq_true rfl) (Nat.le_of_ble_eq_true rfl) (Nat.le_of_ble_eq_true rfl) rfl (by decide) (by decide)
set_option maxHeartbeats 4000000 in
set_option maxRecDepth 100000 in
theorem c_part (l : Launch) (hl0 : l.stackTraces = false) (D : va_G) (sz : Nat) (h fo mn df bl tr wk sd : Nat) (x y : Int32) : cX l yX5_part (.code yX5_part cX5_part 4 (some .int)) 24 760 1 6 [.ref h, .int x, .int y] D [] [(h, .inr (4, [.ref fo, .int 0, .int 0, .ref mn, .ref df, .int 0, .ref bl, .int 0, .int 0, .int 1, .int 0, .ref tr, .ref wk, .ref sd]))] sz (S := Unit) (fun _ _ => False) (fun _ => []) (fun _ => []) (fun E => E = nIAE) := by
  refine cX_of (by decide) (Nat.le_of_ble_eq_true rfl) ?_
  intro p e s m below meth c ls hF hsz hP hK hD hE hZ hA hl
  obtain ⟨hx, hb, hr, hml, hown, hlocks, hnm, htb, hts⟩ := hF
  have hown : s.vm.findClass RX5 = some m.cls := hown
  have hl : lv_has ls 4 [(0, .ref h), (1, .int x), (2, .int y)] := hl
  have hS : va_S (va_A [(h, .inr (4, [.ref fo, .int 0, .int 0, .ref mn, .ref df, .int 0, .ref bl, .int 0, .int 0, .int 1, .int 0, .ref tr, .ref wk, .ref sd]))] sz) s.heap s.heap [] := va_S.rf
  refine lv_aload_n hx hb dX5_part_0 rfl (lv_at hl 0 rfl) ?_
  refine lv_iload_n hx hb dX5_part_1 rfl (lv_at hl 1 rfl) ?_
  refine ck_run (wr := []) (va_runV (C := RX5) (As := [.int x]) (rest := []) ⟨hx, hb, hml, hown, hts⟩ (c_formAt l D s.heap.size h fo mn df bl tr wk sd x) (cw_V (n := 1) hts tw_2_31 tw_2_33 tw_s3 tw_1_1 tw_2_34 (by decide +kernel) ⟨by decide, by decide⟩) ⟨pre.blind, va_recv (q := (RX5, TX5, 14)) hK hP (ci := 4) (q0 := 0) rfl rfl, fun U hU hW => ⟨rfl, pre.of (wc := [(h, .inr (4, [.ref fo, .int 0, .int 0, .ref mn, .ref df, .int 0, .ref bl, .int 0, .int 0, .int 1, .int 0, .ref tr, .ref wk, .ref sd]))]) (tysc := []) (tk := []) hP hD hK hS hA hE hZ [0] (by decide) rfl rfl rfl U hU hW⟩⟩ rfl rfl hl.1 rfl (lv_room (Nat.le_of_ble_eq_true rfl)) dX5_part_2 ⟨by decide, by decide⟩) hP hD hK hS hA [0] [] rfl rfl (by decide) (by decide) (fun v u H locs hw hP hD hK9 hS => ?_)
  have hw : v = some (.null) := hw
  subst hw
  have hP : va_P D vwCl [(h, .inr (4, [.ref fo, .int 0, .int 0, .ref mn, .ref df, .int 0, .ref bl, .int 0, .int 0, .int 1, .int 0, .ref tr, .ref wk, .ref sd]))] H := hP
  have hD : va_D _ [(h, .inr (4, [.ref fo, .int 0, .int 0, .ref mn, .ref df, .int 0, .ref bl, .int 0, .int 0, .int 1, .int 0, .ref tr, .ref wk, .ref sd]))] := hD
  refine W.eq (g2 := F0 m 5 ls [.null]) rfl ?_
  refine lv_astore_nN (lv' := [(3, .null), (0, .ref h), (1, .int x), (2, .int y)]) hx hb dX5_part_5 rfl hl (by decide) rfl (fun ls hl => ?_)
  refine lv_aload_nN hx hb dX5_part_6 rfl (lv_at hl 0 rfl) ?_
  refine lv_ifnullN (tgt := 25) hx hb dX5_part_7 (by decide) ?_
  exact th_IAE hx hb hl0 hown hlocks htb hE hZ hS (hl.1.trans hml.symm) tn_3_228 sx_245 dX5_part_25 dX5_part_28 dX5_part_29 dX5_part_31 dX5_part_34 (by decide) (Nat.le_of_ble_eq_true rfl) (Nat.le_of_ble_eq_true rfl) (Nat.le_of_ble_eq_true rfl) rfl (by decide) (by decide)
set_option maxHeartbeats 4000000 in
set_option maxRecDepth 100000 in
theorem c_alike (l : Launch) (hl0 : l.stackTraces = false) (D : va_G) (sz : Nat) (h fo mn df bl tr wk sd : Nat) (x y : Int32) : cX l yX5_alike (.code yX5_alike cX5_alike 5 (some .boolean)) 24 760 1 6 [.ref h, .int x, .int y] D [] [(h, .inr (4, [.ref fo, .int 0, .int 0, .ref mn, .ref df, .int 0, .ref bl, .int 0, .int 0, .int 1, .int 0, .ref tr, .ref wk, .ref sd]))] sz (S := Unit) (fun _ _ => False) (fun _ => []) (fun _ => []) (fun E => E = nIAE) := by
  refine cX_of (by decide) (Nat.le_of_ble_eq_true rfl) ?_
  intro p e s m below meth c ls hF hsz hP hK hD hE hZ hA hl
  obtain ⟨hx, hb, hr, hml, hown, hlocks, hnm, htb, hts⟩ := hF
  have hown : s.vm.findClass RX5 = some m.cls := hown
  have hl : lv_has ls 5 [(0, .ref h), (1, .int x), (2, .int y)] := hl
  have hS : va_S (va_A [(h, .inr (4, [.ref fo, .int 0, .int 0, .ref mn, .ref df, .int 0, .ref bl, .int 0, .int 0, .int 1, .int 0, .ref tr, .ref wk, .ref sd]))] sz) s.heap s.heap [] := va_S.rf
  refine lv_aload_n hx hb dX5_alike_0 rfl (lv_at hl 0 rfl) ?_
  refine lv_iload_n hx hb dX5_alike_1 rfl (lv_at hl 1 rfl) ?_
  refine ck_run (wr := []) (va_runV (C := RX5) (As := [.int x]) (rest := []) ⟨hx, hb, hml, hown, hts⟩ (c_formAt l D s.heap.size h fo mn df bl tr wk sd x) (cw_V (n := 1) hts tw_2_31 tw_2_33 tw_s3 tw_1_1 tw_2_34 (by decide +kernel) ⟨by decide, by decide⟩) ⟨pre.blind, va_recv (q := (RX5, TX5, 14)) hK hP (ci := 4) (q0 := 0) rfl rfl, fun U hU hW => ⟨rfl, pre.of (wc := [(h, .inr (4, [.ref fo, .int 0, .int 0, .ref mn, .ref df, .int 0, .ref bl, .int 0, .int 0, .int 1, .int 0, .ref tr, .ref wk, .ref sd]))]) (tysc := []) (tk := []) hP hD hK hS hA hE hZ [0] (by decide) rfl rfl rfl U hU hW⟩⟩ rfl rfl hl.1 rfl (lv_room (Nat.le_of_ble_eq_true rfl)) dX5_alike_2 ⟨by decide, by decide⟩) hP hD hK hS hA [0] [] rfl rfl (by decide) (by decide) (fun v u H locs hw hP hD hK9 hS => ?_)
  have hw : v = some (.null) := hw
  subst hw
  have hP : va_P D vwCl [(h, .inr (4, [.ref fo, .int 0, .int 0, .ref mn, .ref df, .int 0, .ref bl, .int 0, .int 0, .int 1, .int 0, .ref tr, .ref wk, .ref sd]))] H := hP
  have hD : va_D _ [(h, .inr (4, [.ref fo, .int 0, .int 0, .ref mn, .ref df, .int 0, .ref bl, .int 0, .int 0, .int 1, .int 0, .ref tr, .ref wk, .ref sd]))] := hD
  refine W.eq (g2 := F0 m 5 ls [.null]) rfl ?_
  refine lv_astore_nN (lv' := [(3, .null), (0, .ref h), (1, .int x), (2, .int y)]) hx hb dX5_alike_5 rfl hl (by decide) rfl (fun ls hl => ?_)
  refine lv_aload_n hx hb dX5_alike_6 rfl (lv_at hl 1 rfl) ?_
  refine lv_iload_n hx hb dX5_alike_7 rfl (lv_at hl 3 rfl) ?_
  refine ck_run (wr := []) (va_runV (C := RX5) (As := [.int y]) (rest := []) ⟨hx, hb, hml, hown, hts⟩ (c_formAt l D H.size h fo mn df bl tr wk sd y) (cw_V (n := 1) hts tw_2_31 tw_2_33 tw_s3 tw_1_1 tw_2_34 (by decide +kernel) ⟨by decide, by decide⟩) ⟨pre.blind, va_recv (q := (RX5, TX5, 14)) hK hP (ci := 4) (q0 := 0) rfl rfl, fun U hU hW => ⟨rfl, pre.of (wc := [(h, .inr (4, [.ref fo, .int 0, .int 0, .ref mn, .ref df, .int 0, .ref bl, .int 0, .int 0, .int 1, .int 0, .ref tr, .ref wk, .ref sd]))]) (tysc := []) (tk := []) hP hD hK hS hA hE hZ [0] (by decide) rfl rfl rfl U hU hW⟩⟩ rfl rfl hl.1 rfl (lv_room (Nat.le_of_ble_eq_true rfl)) dX5_alike_8 ⟨by decide, by decide⟩) hP hD hK hS hA [0] [] rfl rfl (by decide) (by decide) (fun v u H locs hw hP hD hK9 hS => ?_)
  have hw : v = some (.null) := hw
  subst hw
  have hP : va_P D vwCl [(h, .inr (4, [.ref fo, .int 0, .int 0, .ref mn, .ref df, .int 0, .ref bl, .int 0, .int 0, .int 1, .int 0, .ref tr, .ref wk, .ref sd]))] H := hP
  have hD : va_D _ [(h, .inr (4, [.ref fo, .int 0, .int 0, .ref mn, .ref df, .int 0, .ref bl, .int 0, .int 0, .int 1, .int 0, .ref tr, .ref wk, .ref sd]))] := hD
  refine W.eq (g2 := F0 m 11 ls [.null]) rfl ?_
  refine lv_astoreN (lv' := [(4, .null), (3, .null), (0, .ref h), (1, .int x), (2, .int y)]) hx hb dX5_alike_11 hl (by decide) rfl (fun ls hl => ?_)
  refine lv_aload_nN hx hb dX5_alike_13 rfl (lv_at hl 1 rfl) ?_
  refine lv_ifnullN (tgt := 22) hx hb dX5_alike_14 (by decide) ?_
  exact th_IAE hx hb hl0 hown hlocks htb hE hZ hS (hl.1.trans hml.symm) tn_3_213 sx_229 dX5_alike_22 dX5_alike_25 dX5_alike_26 dX5_alike_28 dX5_alike_31 (by decide) (Nat.le_of_ble_eq_true rfl) (Nat.le_of_ble_eq_true rfl) (Nat.le_of_ble_eq_true rfl) rfl (by decide) (by decide)
set_option maxHeartbeats 4000000 in
set_option maxRecDepth 100000 in
theorem c_count (l : Launch) (hl0 : l.stackTraces = false) (D : va_G) (sz : Nat) (h fo mn df bl tr wk sd : Nat) (x : Int32) : cX l yX5_count (.code yX5_count cX5_count 2 (some .int)) 24 760 1 6 [.ref h, .int x] D [] [(h, .inr (4, [.ref fo, .int 0, .int 0, .ref mn, .ref df, .int 0, .ref bl, .int 0, .int 0, .int 1, .int 0, .ref tr, .ref wk, .ref sd]))] sz (S := Unit) (fun v _ => v = some (.int 0) ∧ (x = 0 ∨ x = 1 ∨ x = 2 ∨ x = 3 ∨ x = 4)) (fun _ => []) (fun _ => []) (fun E => E = nIAE ∧ ¬ (x = 0 ∨ x = 1 ∨ x = 2 ∨ x = 3 ∨ x = 4)) := by
  refine cX_of (by decide) (Nat.le_of_ble_eq_true rfl) ?_
  intro p e s m below meth c ls hF hsz hP hK hD hE hZ hA hl
  obtain ⟨hx, hb, hr, hml, hown, hlocks, hnm, htb, hts⟩ := hF
  have hown : s.vm.findClass RX5 = some m.cls := hown
  have hl : lv_has ls 2 [(0, .ref h), (1, .int x)] := hl
  have hS : va_S (va_A [(h, .inr (4, [.ref fo, .int 0, .int 0, .ref mn, .ref df, .int 0, .ref bl, .int 0, .int 0, .int 1, .int 0, .ref tr, .ref wk, .ref sd]))] sz) s.heap s.heap [] := va_S.rf
  refine lv_iload_n hx hb dX5_count_0 rfl (lv_at hl 1 rfl) ?_
  by_cases sw_1_0 : x = 0
  · subst sw_1_0
    refine lv_tableIn (off := 35) (tgt := 36) hx hb dX5_count_1 (by decide) (by decide) rfl (by decide) ?_
    refine lv_aload_n hx hb dX5_count_36 rfl (lv_at hl 0 rfl) ?_
    refine va_get (ci := 4) (v := .int 0) (C := RX5) (T := TX5) (N := 14) hx hb hts inG_X5 hown hK hP 0 rfl rfl 1 (by decide) (hts _ tw_1_118) (fun _ h9 => h9) rfl dX5_count_37 ?_
    exact vx_ret (ck_iret () hx hb hr rfl hlocks ⟨rfl, (by decide)⟩ (hP.sub [] rfl) (hK.sub [] rfl) (hD.sub [] (by decide) rfl) hS (by decide) (by decide) dX5_count_40)
  by_cases sw_1_1 : x = 1
  · subst sw_1_1
    refine lv_tableIn (off := 40) (tgt := 41) hx hb dX5_count_1 (by decide) (by decide) rfl (by decide) ?_
    refine lv_aload_n hx hb dX5_count_41 rfl (lv_at hl 0 rfl) ?_
    refine va_get (ci := 4) (v := .int 0) (C := RX5) (T := TX5) (N := 14) hx hb hts inG_X5 hown hK hP 0 rfl rfl 5 (by decide) (hts _ tw_1_122) (fun _ h9 => h9) rfl dX5_count_42 ?_
    exact vx_ret (ck_iret () hx hb hr rfl hlocks ⟨rfl, (by decide)⟩ (hP.sub [] rfl) (hK.sub [] rfl) (hD.sub [] (by decide) rfl) hS (by decide) (by decide) dX5_count_45)
  by_cases sw_1_2 : x = 2
  · subst sw_1_2
    refine lv_tableIn (off := 45) (tgt := 46) hx hb dX5_count_1 (by decide) (by decide) rfl (by decide) ?_
    refine lv_aload_n hx hb dX5_count_46 rfl (lv_at hl 0 rfl) ?_
    refine va_get (ci := 4) (v := .int 0) (C := RX5) (T := TX5) (N := 14) hx hb hts inG_X5 hown hK hP 0 rfl rfl 7 (by decide) (hts _ tw_1_124) (fun _ h9 => h9) rfl dX5_count_47 ?_
    exact vx_ret (ck_iret () hx hb hr rfl hlocks ⟨rfl, (by decide)⟩ (hP.sub [] rfl) (hK.sub [] rfl) (hD.sub [] (by decide) rfl) hS (by decide) (by decide) dX5_count_50)
  by_cases sw_1_3 : x = 3
  · subst sw_1_3
    refine lv_tableIn (off := 50) (tgt := 51) hx hb dX5_count_1 (by decide) (by decide) rfl (by decide) ?_
    refine lv_aload_n hx hb dX5_count_51 rfl (lv_at hl 0 rfl) ?_
    refine va_get (ci := 4) (v := .int 0) (C := RX5) (T := TX5) (N := 14) hx hb hts inG_X5 hown hK hP 0 rfl rfl 10 (by decide) (hts _ tw_1_127) (fun _ h9 => h9) rfl dX5_count_52 ?_
    exact vx_ret (ck_iret () hx hb hr rfl hlocks ⟨rfl, (by decide)⟩ (hP.sub [] rfl) (hK.sub [] rfl) (hD.sub [] (by decide) rfl) hS (by decide) (by decide) dX5_count_55)
  by_cases sw_1_4 : x = 4
  · subst sw_1_4
    refine lv_tableIn (off := 55) (tgt := 56) hx hb dX5_count_1 (by decide) (by decide) rfl (by decide) ?_
    refine lv_aload_n hx hb dX5_count_56 rfl (lv_at hl 0 rfl) ?_
    refine va_get (ci := 4) (v := .int 0) (C := RX5) (T := TX5) (N := 14) hx hb hts inG_X5 hown hK hP 0 rfl rfl 2 (by decide) (hts _ tw_1_119) (fun _ h9 => h9) rfl dX5_count_57 ?_
    exact vx_ret (ck_iret () hx hb hr rfl hlocks ⟨rfl, (by decide)⟩ (hP.sub [] rfl) (hK.sub [] rfl) (hD.sub [] (by decide) rfl) hS (by decide) (by decide) dX5_count_60)
  refine lv_tableOut (tgt := 61) hx hb dX5_count_1 (sw_5 sw_1_0 sw_1_1 sw_1_2 sw_1_3 sw_1_4) (by decide) ?_
  exact th_IAEw hx hb hl0 hown hlocks htb hE hZ hS (hl.1.trans hml.symm) tn_4_16 sx_263 dX5_count_61 dX5_count_64 dX5_count_65 dX5_count_68 dX5_count_71 (by decide) (Nat.le_of_ble_eq_true rfl) (Nat.le_of_ble_eq_true rfl) (Nat.le_of_ble_eq_true rfl) ⟨rfl, fun g => g.elim sw_1_0 (fun g => g.elim sw_1_1 (fun g => g.elim sw_1_2 (fun g => g.elim sw_1_3 sw_1_4)))⟩ (by decide) (by decide)
set_option maxHeartbeats 4000000 in
set_option maxRecDepth 100000 in
theorem c_fit (l : Launch) (D : va_G) (sz : Nat) (h fo mn df bl tr wk sd : Nat) : cM l yX5_fit (.code yX5_fit cX5_fit 1 (some .boolean)) 24 760 0 0 [.ref h] D [] [(h, .inr (4, [.ref fo, .int 0, .int 0, .ref mn, .ref df, .int 0, .ref bl, .int 0, .int 0, .int 1, .int 0, .ref tr, .ref wk, .ref sd]))] sz (S := Unit) (fun v _ => v = some (.int 1)) (fun _ => []) (fun _ => []) := by
  refine cM_of (by decide) (Nat.le_of_ble_eq_true rfl) ?_
  intro p e s m below meth c ls hF hsz hP hK hD hE hZ hA hl
  obtain ⟨hx, hb, hr, hml, hown, hlocks, hnm, htb, hts⟩ := hF
  have hown : s.vm.findClass RX5 = some m.cls := hown
  have hl : lv_has ls 1 [(0, .ref h)] := hl
  have hS : va_S (va_A [(h, .inr (4, [.ref fo, .int 0, .int 0, .ref mn, .ref df, .int 0, .ref bl, .int 0, .int 0, .int 1, .int 0, .ref tr, .ref wk, .ref sd]))] sz) s.heap s.heap [] := va_S.rf
  refine lv_aload_n hx hb dX5_fit_0 rfl (lv_at hl 0 rfl) ?_
  refine va_get (ci := 4) (v := .int 1) (C := RX5) (T := TX5) (N := 14) hx hb hts inG_X5 hown hK hP 0 rfl rfl 9 (by decide) (hts _ tw_1_126) (fun _ h9 => h9) rfl dX5_fit_1 ?_
  exact ck_iret () hx hb hr rfl hlocks rfl (hP.sub [] rfl) (hK.sub [] rfl) (hD.sub [] (by decide) rfl) hS (by decide) (by decide) dX5_fit_4
