set_option maxHeartbeats 4000000 in
set_option maxRecDepth 100000 in
theorem c_predIn (l : Launch) (D : va_G) (sz : Nat) (a : Int32) : cM l yX1_predicateIn (.code yX1_predicateIn cX1_predicateIn 1 (some .int)) 12 340 0 0 [.int a] D [] [] sz (S := Unit) (fun v _ => v = some (.int (k_pred a))) (fun _ => []) (fun _ => []) := by
  refine cM_of (by decide) (Nat.le_of_ble_eq_true rfl) ?_
  intro p e s m below meth c ls hF hsz hP hK hD hE hZ hA hl
  obtain ⟨hx, hb, hr, hml, hown, hlocks, hnm, htb, hts⟩ := hF
  have hown : s.vm.findClass RX1 = some m.cls := hown
  have hl : lv_has ls 1 [(0, .int a)] := hl
  have hS : va_S (va_A [] sz) s.heap s.heap [] := va_S.rf
  refine lv_iload_n hx hb dX1_predicateIn_0 rfl (lv_at hl 0 rfl) ?_
  refine ck_run (wr := []) (va_runS (As := [.int a]) (rest := []) ⟨hx, hb, hml, hown, hts⟩ (c_kind l D s.heap.size a) (cw_S (n := 1) hts tw_3_109 tw_1_101 tw_1_8 tw_1_102 (by decide +kernel) ⟨by decide, by decide⟩) ⟨pre.blind, fun U hU hW => ⟨rfl, pre.of (wc := []) (tysc := []) (tk := []) hP hD hK hS hA hE hZ [] (by decide) rfl rfl rfl U hU hW⟩⟩ rfl rfl hl.1 rfl (lv_room (Nat.le_of_ble_eq_true rfl)) dX1_predicateIn_1 ⟨by decide, by decide⟩) hP hD hK hS hA [] [] rfl rfl (by decide) (by decide) (fun v u H locs hw hP hD hK9 hS => ?_)
  have hw : v = some (.int (a &&& 15)) := hw
  subst hw
  have hP : va_P D vwCl [] H := hP
  have hD : va_D _ [] := hD
  refine W.eq (g2 := F0 m 4 ls [.int (a &&& 15)]) rfl ?_
  refine lv_iconst (v := 5) hx hb dX1_predicateIn_4 (by decide) ?_
  refine lv_icmp_ne (tgt := 17) hx hb dX1_predicateIn_5 (by decide) (fun c_5 => ?_) (fun c_5 => ?_)
  · refine lv_iconst (v := (-1)) hx hb dX1_predicateIn_17 (by decide) ?_
    exact ck_iret () hx hb hr rfl hlocks (congrArg (fun z9 => some (Value.int z9)) (show ((-1) : Int32) = k_pred a from (by unfold k_pred k_v; rw [if_neg c_5]; try rfl))) (hP.sub [] rfl) (hK.sub [] rfl) (hD.sub [] (by decide) rfl) hS (by decide) (by decide) dX1_predicateIn_18
  · refine lv_iload_n hx hb dX1_predicateIn_8 rfl (lv_at hl 0 rfl) ?_
    refine ck_run (wr := []) (va_runS (As := [.int a]) (rest := []) ⟨hx, hb, hml, hown, hts⟩ (c_value l D H.size a) (cw_S (n := 1) hts tw_3_110 tw_1_98 tw_1_8 tw_1_99 (by decide +kernel) ⟨by decide, by decide⟩) ⟨pre.blind, fun U hU hW => ⟨rfl, pre.of (wc := []) (tysc := []) (tk := []) hP hD hK hS hA hE hZ [] (by decide) rfl rfl rfl U hU hW⟩⟩ rfl rfl hl.1 rfl (lv_room (Nat.le_of_ble_eq_true rfl)) dX1_predicateIn_9 ⟨by decide, by decide⟩) hP hD hK hS hA [] [] rfl rfl (by decide) (by decide) (fun v u H locs hw hP hD hK9 hS => ?_)
    have hw : v = some (.int (a >>> ((4 : Int32) &&& 31))) := hw
    subst hw
    have hP : va_P D vwCl [] H := hP
    have hD : va_D _ [] := hD
    refine W.eq (g2 := F0 m 12 ls [.int (a >>> ((4 : Int32) &&& 31))]) rfl ?_
    refine lv_iconst (v := 3) hx hb dX1_predicateIn_12 (by decide) ?_
    refine lv_idiv hx hb dX1_predicateIn_13 (by decide) ?_
    refine ck_top (y := a >>> ((4 : Int32) &&& 31) / 3) rfl ?_
    refine lv_goto (tgt := 18) hx hb dX1_predicateIn_14 (by decide) ?_
    exact ck_iret () hx hb hr rfl hlocks (congrArg (fun z9 => some (Value.int z9)) (show (a >>> ((4 : Int32) &&& 31) / 3 : Int32) = k_pred a from (by unfold k_pred k_v; rw [if_pos c_5]; try rfl))) (hP.sub [] rfl) (hK.sub [] rfl) (hD.sub [] (by decide) rfl) hS (by decide) (by decide) dX1_predicateIn_18
set_option maxHeartbeats 4000000 in
set_option maxRecDepth 100000 in
theorem c_many (l : Launch) (D : va_G) (sz : Nat) (a : Int32) : cM l yX1_many (.code yX1_many cX1_many 1 (some .int)) 12 340 0 0 [.int a] D [] [] sz (S := Unit) (fun v _ => v = some (.int (k_many a))) (fun _ => []) (fun _ => []) := by
  refine cM_of (by decide) (Nat.le_of_ble_eq_true rfl) ?_
  intro p e s m below meth c ls hF hsz hP hK hD hE hZ hA hl
  obtain ⟨hx, hb, hr, hml, hown, hlocks, hnm, htb, hts⟩ := hF
  have hown : s.vm.findClass RX1 = some m.cls := hown
  have hl : lv_has ls 1 [(0, .int a)] := hl
  have hS : va_S (va_A [] sz) s.heap s.heap [] := va_S.rf
  refine lv_iload_n hx hb dX1_many_0 rfl (lv_at hl 0 rfl) ?_
  refine ck_run (wr := []) (va_runS (As := [.int a]) (rest := []) ⟨hx, hb, hml, hown, hts⟩ (c_kind l D s.heap.size a) (cw_S (n := 1) hts tw_3_109 tw_1_101 tw_1_8 tw_1_102 (by decide +kernel) ⟨by decide, by decide⟩) ⟨pre.blind, fun U hU hW => ⟨rfl, pre.of (wc := []) (tysc := []) (tk := []) hP hD hK hS hA hE hZ [] (by decide) rfl rfl rfl U hU hW⟩⟩ rfl rfl hl.1 rfl (lv_room (Nat.le_of_ble_eq_true rfl)) dX1_many_1 ⟨by decide, by decide⟩) hP hD hK hS hA [] [] rfl rfl (by decide) (by decide) (fun v u H locs hw hP hD hK9 hS => ?_)
  have hw : v = some (.int (a &&& 15)) := hw
  subst hw
  have hP : va_P D vwCl [] H := hP
  have hD : va_D _ [] := hD
  refine W.eq (g2 := F0 m 4 ls [.int (a &&& 15)]) rfl ?_
  by_cases sw_4_4 : a &&& 15 = 4
  · refine ck_top (y := 4) sw_4_4 ?_
    refine lv_tableIn (off := 36) (tgt := 40) hx hb dX1_many_4 (by decide) (by decide) rfl (by decide) ?_
    refine lv_iconst (v := 2) hx hb dX1_many_40 (by decide) ?_
    exact ck_iret () hx hb hr rfl hlocks (congrArg (fun z9 => some (Value.int z9)) (show (2 : Int32) = k_many a from (by unfold k_many k_v; rw [if_pos sw_4_4]; try rfl))) (hP.sub [] rfl) (hK.sub [] rfl) (hD.sub [] (by decide) rfl) hS (by decide) (by decide) dX1_many_41
  by_cases sw_4_5 : a &&& 15 = 5
  · refine ck_top (y := 5) sw_4_5 ?_
    refine lv_tableIn (off := 38) (tgt := 42) hx hb dX1_many_4 (by decide) (by decide) rfl (by decide) ?_
    refine lv_iload_n hx hb dX1_many_42 rfl (lv_at hl 0 rfl) ?_
    refine ck_run (wr := []) (va_runS (As := [.int a]) (rest := []) ⟨hx, hb, hml, hown, hts⟩ (c_value l D H.size a) (cw_S (n := 1) hts tw_3_110 tw_1_98 tw_1_8 tw_1_99 (by decide +kernel) ⟨by decide, by decide⟩) ⟨pre.blind, fun U hU hW => ⟨rfl, pre.of (wc := []) (tysc := []) (tk := []) hP hD hK hS hA hE hZ [] (by decide) rfl rfl rfl U hU hW⟩⟩ rfl rfl hl.1 rfl (lv_room (Nat.le_of_ble_eq_true rfl)) dX1_many_43 ⟨by decide, by decide⟩) hP hD hK hS hA [] [] rfl rfl (by decide) (by decide) (fun v u H locs hw hP hD hK9 hS => ?_)
    have hw : v = some (.int (a >>> ((4 : Int32) &&& 31))) := hw
    subst hw
    have hP : va_P D vwCl [] H := hP
    have hD : va_D _ [] := hD
    refine W.eq (g2 := F0 m 46 ls [.int (a >>> ((4 : Int32) &&& 31))]) rfl ?_
    refine lv_iconst (v := 3) hx hb dX1_many_46 (by decide) ?_
    refine lv_irem hx hb dX1_many_47 (by decide) ?_
    refine ck_top (y := a >>> ((4 : Int32) &&& 31) - a >>> ((4 : Int32) &&& 31) / 3 * 3) rfl ?_
    exact ck_iret () hx hb hr rfl hlocks (congrArg (fun z9 => some (Value.int z9)) (show (a >>> ((4 : Int32) &&& 31) - a >>> ((4 : Int32) &&& 31) / 3 * 3 : Int32) = k_many a from (by unfold k_many k_v; rw [if_neg sw_4_4, if_pos sw_4_5]; try rfl))) (hP.sub [] rfl) (hK.sub [] rfl) (hD.sub [] (by decide) rfl) hS (by decide) (by decide) dX1_many_48
  by_cases sw_4_6 : a &&& 15 = 6
  · refine ck_top (y := 6) sw_4_6 ?_
    refine lv_tableIn (off := 45) (tgt := 49) hx hb dX1_many_4 (by decide) (by decide) rfl (by decide) ?_
    refine lv_iconst (v := 1) hx hb dX1_many_49 (by decide) ?_
    exact ck_iret () hx hb hr rfl hlocks (congrArg (fun z9 => some (Value.int z9)) (show (1 : Int32) = k_many a from (by unfold k_many k_v; rw [if_neg sw_4_4, if_neg sw_4_5, if_pos sw_4_6]; try rfl))) (hP.sub [] rfl) (hK.sub [] rfl) (hD.sub [] (by decide) rfl) hS (by decide) (by decide) dX1_many_50
  by_cases sw_4_7 : a &&& 15 = 7
  · refine ck_top (y := 7) sw_4_7 ?_
    refine lv_tableIn (off := 47) (tgt := 51) hx hb dX1_many_4 (by decide) (by decide) rfl (by decide) ?_
    refine lv_iload_n hx hb dX1_many_51 rfl (lv_at hl 0 rfl) ?_
    refine ck_run (wr := []) (va_runS (As := [.int a]) (rest := []) ⟨hx, hb, hml, hown, hts⟩ (c_value l D H.size a) (cw_S (n := 1) hts tw_3_110 tw_1_98 tw_1_8 tw_1_99 (by decide +kernel) ⟨by decide, by decide⟩) ⟨pre.blind, fun U hU hW => ⟨rfl, pre.of (wc := []) (tysc := []) (tk := []) hP hD hK hS hA hE hZ [] (by decide) rfl rfl rfl U hU hW⟩⟩ rfl rfl hl.1 rfl (lv_room (Nat.le_of_ble_eq_true rfl)) dX1_many_52 ⟨by decide, by decide⟩) hP hD hK hS hA [] [] rfl rfl (by decide) (by decide) (fun v u H locs hw hP hD hK9 hS => ?_)
    have hw : v = some (.int (a >>> ((4 : Int32) &&& 31))) := hw
    subst hw
    have hP : va_P D vwCl [] H := hP
    have hD : va_D _ [] := hD
    refine W.eq (g2 := F0 m 55 ls [.int (a >>> ((4 : Int32) &&& 31))]) rfl ?_
    exact ck_iret () hx hb hr rfl hlocks (congrArg (fun z9 => some (Value.int z9)) (show (a >>> ((4 : Int32) &&& 31) : Int32) = k_many a from (by unfold k_many k_v; rw [if_neg sw_4_4, if_neg sw_4_5, if_neg sw_4_6, if_pos sw_4_7]; try rfl))) (hP.sub [] rfl) (hK.sub [] rfl) (hD.sub [] (by decide) rfl) hS (by decide) (by decide) dX1_many_55
  by_cases sw_4_8 : a &&& 15 = 8
  · refine ck_top (y := 8) sw_4_8 ?_
    refine lv_tableIn (off := 45) (tgt := 49) hx hb dX1_many_4 (by decide) (by decide) rfl (by decide) ?_
    refine lv_iconst (v := 1) hx hb dX1_many_49 (by decide) ?_
    exact ck_iret () hx hb hr rfl hlocks (congrArg (fun z9 => some (Value.int z9)) (show (1 : Int32) = k_many a from (by unfold k_many k_v; rw [if_neg sw_4_4, if_neg sw_4_5, if_neg sw_4_6, if_neg sw_4_7, if_pos sw_4_8]; try rfl))) (hP.sub [] rfl) (hK.sub [] rfl) (hD.sub [] (by decide) rfl) hS (by decide) (by decide) dX1_many_50
  refine lv_tableOut (tgt := 56) hx hb dX1_many_4 (by have g0 := lv_neT (a := 4) sw_4_4 (by decide); have g1 := lv_neT (a := 5) sw_4_5 (by decide); have g2 := lv_neT (a := 6) sw_4_6 (by decide); have g3 := lv_neT (a := 7) sw_4_7 (by decide); have g4 := lv_neT (a := 8) sw_4_8 (by decide); omega) (by decide) ?_
  refine lv_iconst (v := 0) hx hb dX1_many_56 (by decide) ?_
  exact ck_iret () hx hb hr rfl hlocks (congrArg (fun z9 => some (Value.int z9)) (show (0 : Int32) = k_many a from (by unfold k_many k_v; rw [if_neg sw_4_4, if_neg sw_4_5, if_neg sw_4_6, if_neg sw_4_7, if_neg sw_4_8]; try rfl))) (hP.sub [] rfl) (hK.sub [] rfl) (hD.sub [] (by decide) rfl) hS (by decide) (by decide) dX1_many_57
set_option maxHeartbeats 4000000 in
set_option maxRecDepth 100000 in
theorem c_mark (l : Launch) (D : va_G) (sz : Nat) (a : Int32) : cM l yX1_mark (.code yX1_mark cX1_mark 1 (some .int)) 14 410 0 0 [.int a] D [] [] sz (S := Unit) (fun v _ => v = some (.int (k_mark a))) (fun _ => []) (fun _ => []) := by
  refine cM_of (by decide) (Nat.le_of_ble_eq_true rfl) ?_
  intro p e s m below meth c ls hF hsz hP hK hD hE hZ hA hl
  obtain ⟨hx, hb, hr, hml, hown, hlocks, hnm, htb, hts⟩ := hF
  have hown : s.vm.findClass RX1 = some m.cls := hown
  have hl : lv_has ls 1 [(0, .int a)] := hl
  have hS : va_S (va_A [] sz) s.heap s.heap [] := va_S.rf
  refine lv_iload_n hx hb dX1_mark_0 rfl (lv_at hl 0 rfl) ?_
  refine ck_run (wr := []) (va_runS (As := [.int a]) (rest := []) ⟨hx, hb, hml, hown, hts⟩ (c_kind l D s.heap.size a) (cw_S (n := 1) hts tw_3_109 tw_1_101 tw_1_8 tw_1_102 (by decide +kernel) ⟨by decide, by decide⟩) ⟨pre.blind, fun U hU hW => ⟨rfl, pre.of (wc := []) (tysc := []) (tk := []) hP hD hK hS hA hE hZ [] (by decide) rfl rfl rfl U hU hW⟩⟩ rfl rfl hl.1 rfl (lv_room (Nat.le_of_ble_eq_true rfl)) dX1_mark_1 ⟨by decide, by decide⟩) hP hD hK hS hA [] [] rfl rfl (by decide) (by decide) (fun v u H locs hw hP hD hK9 hS => ?_)
  have hw : v = some (.int (a &&& 15)) := hw
  subst hw
  have hP : va_P D vwCl [] H := hP
  have hD : va_D _ [] := hD
  refine W.eq (g2 := F0 m 4 ls [.int (a &&& 15)]) rfl ?_
  by_cases sw_4_1 : a &&& 15 = 1
  · refine ck_top (y := 1) sw_4_1 ?_
    refine lv_tableIn (off := 41) (tgt := 45) hx hb dX1_mark_4 (by decide) (by decide) rfl (by decide) ?_
    refine lv_iload_n hx hb dX1_mark_45 rfl (lv_at hl 0 rfl) ?_
    refine ck_run (wr := []) (va_runS (As := [.int a]) (rest := []) ⟨hx, hb, hml, hown, hts⟩ (c_value l D H.size a) (cw_S (n := 1) hts tw_3_110 tw_1_98 tw_1_8 tw_1_99 (by decide +kernel) ⟨by decide, by decide⟩) ⟨pre.blind, fun U hU hW => ⟨rfl, pre.of (wc := []) (tysc := []) (tk := []) hP hD hK hS hA hE hZ [] (by decide) rfl rfl rfl U hU hW⟩⟩ rfl rfl hl.1 rfl (lv_room (Nat.le_of_ble_eq_true rfl)) dX1_mark_46 ⟨by decide, by decide⟩) hP hD hK hS hA [] [] rfl rfl (by decide) (by decide) (fun v u H locs hw hP hD hK9 hS => ?_)
    have hw : v = some (.int (a >>> ((4 : Int32) &&& 31))) := hw
    subst hw
    have hP : va_P D vwCl [] H := hP
    have hD : va_D _ [] := hD
    refine W.eq (g2 := F0 m 49 ls [.int (a >>> ((4 : Int32) &&& 31))]) rfl ?_
    exact ck_iret () hx hb hr rfl hlocks (congrArg (fun z9 => some (Value.int z9)) (show (a >>> ((4 : Int32) &&& 31) : Int32) = k_mark a from (by unfold k_mark k_v; rw [if_pos sw_4_1]; try rfl))) (hP.sub [] rfl) (hK.sub [] rfl) (hD.sub [] (by decide) rfl) hS (by decide) (by decide) dX1_mark_49
  by_cases sw_4_2 : a &&& 15 = 2
  · refine ck_top (y := 2) sw_4_2 ?_
    refine lv_tableIn (off := 46) (tgt := 50) hx hb dX1_mark_4 (by decide) (by decide) rfl (by decide) ?_
    refine lv_iconst (v := (-1)) hx hb dX1_mark_50 (by decide) ?_
    refine lv_iload_n hx hb dX1_mark_51 rfl (lv_at hl 0 rfl) ?_
    refine ck_run (wr := []) (va_runS (As := [.int a]) (rest := [.int (-1)]) ⟨hx, hb, hml, hown, hts⟩ (c_value l D H.size a) (cw_S (n := 1) hts tw_3_110 tw_1_98 tw_1_8 tw_1_99 (by decide +kernel) ⟨by decide, by decide⟩) ⟨pre.blind, fun U hU hW => ⟨rfl, pre.of (wc := []) (tysc := []) (tk := []) hP hD hK hS hA hE hZ [] (by decide) rfl rfl rfl U hU hW⟩⟩ rfl rfl hl.1 rfl (lv_room (Nat.le_of_ble_eq_true rfl)) dX1_mark_52 ⟨by decide, by decide⟩) hP hD hK hS hA [] [] rfl rfl (by decide) (by decide) (fun v u H locs hw hP hD hK9 hS => ?_)
    have hw : v = some (.int (a >>> ((4 : Int32) &&& 31))) := hw
    subst hw
    have hP : va_P D vwCl [] H := hP
    have hD : va_D _ [] := hD
    refine W.eq (g2 := F0 m 55 ls [.int (a >>> ((4 : Int32) &&& 31)), .int (-1)]) rfl ?_
    refine lv_isub hx hb dX1_mark_55 ?_
    refine ck_top (y := -1 - a >>> ((4 : Int32) &&& 31)) rfl ?_
    exact ck_iret () hx hb hr rfl hlocks (congrArg (fun z9 => some (Value.int z9)) (show (-1 - a >>> ((4 : Int32) &&& 31) : Int32) = k_mark a from (by unfold k_mark k_v; rw [if_neg sw_4_1, if_pos sw_4_2]; try rfl))) (hP.sub [] rfl) (hK.sub [] rfl) (hD.sub [] (by decide) rfl) hS (by decide) (by decide) dX1_mark_56
  by_cases sw_4_3 : a &&& 15 = 3
  · refine ck_top (y := 3) sw_4_3 ?_
    refine lv_tableIn (off := 53) (tgt := 57) hx hb dX1_mark_4 (by decide) (by decide) rfl (by decide) ?_
    refine lv_iconst (v := (-1)) hx hb dX1_mark_57 (by decide) ?_
    exact ck_iret () hx hb hr rfl hlocks (congrArg (fun z9 => some (Value.int z9)) (show ((-1) : Int32) = k_mark a from (by unfold k_mark k_v; rw [if_neg sw_4_1, if_neg sw_4_2, if_pos sw_4_3]; try rfl))) (hP.sub [] rfl) (hK.sub [] rfl) (hD.sub [] (by decide) rfl) hS (by decide) (by decide) dX1_mark_58
  by_cases sw_4_4 : a &&& 15 = 4
  · refine ck_top (y := 4) sw_4_4 ?_
    refine lv_tableIn (off := 53) (tgt := 57) hx hb dX1_mark_4 (by decide) (by decide) rfl (by decide) ?_
    refine lv_iconst (v := (-1)) hx hb dX1_mark_57 (by decide) ?_
    exact ck_iret () hx hb hr rfl hlocks (congrArg (fun z9 => some (Value.int z9)) (show ((-1) : Int32) = k_mark a from (by unfold k_mark k_v; rw [if_neg sw_4_1, if_neg sw_4_2, if_neg sw_4_3, if_pos sw_4_4]; try rfl))) (hP.sub [] rfl) (hK.sub [] rfl) (hD.sub [] (by decide) rfl) hS (by decide) (by decide) dX1_mark_58
  by_cases sw_4_5 : a &&& 15 = 5
  · refine ck_top (y := 5) sw_4_5 ?_
    refine lv_tableIn (off := 36) (tgt := 40) hx hb dX1_mark_4 (by decide) (by decide) rfl (by decide) ?_
    refine lv_iload_n hx hb dX1_mark_40 rfl (lv_at hl 0 rfl) ?_
    refine ck_run (wr := []) (va_runS (As := [.int a]) (rest := []) ⟨hx, hb, hml, hown, hts⟩ (c_predIn l D H.size a) (cw_S (n := 1) hts tw_3_220 tw_3_107 tw_1_8 tw_3_108 (by decide +kernel) ⟨by decide, by decide⟩) ⟨pre.blind, fun U hU hW => ⟨rfl, pre.of (wc := []) (tysc := []) (tk := []) hP hD hK hS hA hE hZ [] (by decide) rfl rfl rfl U hU hW⟩⟩ rfl rfl hl.1 rfl (lv_room (Nat.le_of_ble_eq_true rfl)) dX1_mark_41 ⟨by decide, by decide⟩) hP hD hK hS hA [] [] rfl rfl (by decide) (by decide) (fun v u H locs hw hP hD hK9 hS => ?_)
    have hw : v = some (.int (k_pred a)) := hw
    subst hw
    have hP : va_P D vwCl [] H := hP
    have hD : va_D _ [] := hD
    refine W.eq (g2 := F0 m 44 ls [.int (k_pred a)]) rfl ?_
    exact ck_iret () hx hb hr rfl hlocks (congrArg (fun z9 => some (Value.int z9)) (show (k_pred a : Int32) = k_mark a from (by unfold k_mark k_v; rw [if_neg sw_4_1, if_neg sw_4_2, if_neg sw_4_3, if_neg sw_4_4, if_pos sw_4_5]; try rfl))) (hP.sub [] rfl) (hK.sub [] rfl) (hD.sub [] (by decide) rfl) hS (by decide) (by decide) dX1_mark_44
  refine lv_tableOut (tgt := 57) hx hb dX1_mark_4 (by have g0 := lv_neT (a := 1) sw_4_1 (by decide); have g1 := lv_neT (a := 2) sw_4_2 (by decide); have g2 := lv_neT (a := 3) sw_4_3 (by decide); have g3 := lv_neT (a := 4) sw_4_4 (by decide); have g4 := lv_neT (a := 5) sw_4_5 (by decide); omega) (by decide) ?_
  refine lv_iconst (v := (-1)) hx hb dX1_mark_57 (by decide) ?_
  exact ck_iret () hx hb hr rfl hlocks (congrArg (fun z9 => some (Value.int z9)) (show ((-1) : Int32) = k_mark a from (by unfold k_mark k_v; rw [if_neg sw_4_1, if_neg sw_4_2, if_neg sw_4_3, if_neg sw_4_4, if_neg sw_4_5]; try rfl))) (hP.sub [] rfl) (hK.sub [] rfl) (hD.sub [] (by decide) rfl) hS (by decide) (by decide) dX1_mark_58
set_option maxHeartbeats 4000000 in
set_option maxRecDepth 100000 in
theorem c_ofPred (l : Launch) (D : va_G) (sz : Nat) (a b : Int32) : cM l yX1_ofPredicate (.code yX1_ofPredicate cX1_ofPredicate 2 (some .int)) 12 340 0 0 [.int a, .int b] D [] [] sz (S := Unit) (fun v _ => v = some (.int ((a * 3 + b) <<< ((4 : Int32) &&& 31) ||| 5))) (fun _ => []) (fun _ => []) := by
  refine cM_of (by decide) (Nat.le_of_ble_eq_true rfl) ?_
  intro p e s m below meth c ls hF hsz hP hK hD hE hZ hA hl
  obtain ⟨hx, hb, hr, hml, hown, hlocks, hnm, htb, hts⟩ := hF
  have hown : s.vm.findClass RX1 = some m.cls := hown
  have hl : lv_has ls 2 [(0, .int a), (1, .int b)] := hl
  have hS : va_S (va_A [] sz) s.heap s.heap [] := va_S.rf
  refine lv_iconst (v := 5) hx hb dX1_ofPredicate_0 (by decide) ?_
  refine lv_iload_n hx hb dX1_ofPredicate_1 rfl (lv_at hl 0 rfl) ?_
  refine lv_iconst (v := 3) hx hb dX1_ofPredicate_2 (by decide) ?_
  refine lv_imul hx hb dX1_ofPredicate_3 ?_
  refine ck_top (y := a * 3) rfl ?_
  refine lv_iload_n hx hb dX1_ofPredicate_4 rfl (lv_at hl 1 rfl) ?_
  refine lv_iadd hx hb dX1_ofPredicate_5 ?_
  refine ck_top (y := a * 3 + b) rfl ?_
  refine ck_run (wr := []) (va_runS (As := [.int 5, .int (a * 3 + b)]) (rest := []) ⟨hx, hb, hml, hown, hts⟩ (c_of l D s.heap.size 5 (a * 3 + b)) (cw_S (n := 2) hts tw_2_104 tw_2_60 tw_1_8 tw_2_61 (by decide +kernel) ⟨by decide, by decide⟩) ⟨pre.blind, fun U hU hW => ⟨rfl, pre.of (wc := []) (tysc := []) (tk := []) hP hD hK hS hA hE hZ [] (by decide) rfl rfl rfl U hU hW⟩⟩ rfl rfl hl.1 rfl (lv_room (Nat.le_of_ble_eq_true rfl)) dX1_ofPredicate_6 ⟨by decide, by decide⟩) hP hD hK hS hA [] [] rfl rfl (by decide) (by decide) (fun v u H locs hw hP hD hK9 hS => ?_)
  have hw : v = some (.int ((a * 3 + b) <<< ((4 : Int32) &&& 31) ||| 5)) := hw
  subst hw
  have hP : va_P D vwCl [] H := hP
  have hD : va_D _ [] := hD
  refine W.eq (g2 := F0 m 9 ls [.int ((a * 3 + b) <<< ((4 : Int32) &&& 31) ||| 5)]) rfl ?_
  exact ck_iret () hx hb hr rfl hlocks rfl (hP.sub [] rfl) (hK.sub [] rfl) (hD.sub [] (by decide) rfl) hS (by decide) (by decide) dX1_ofPredicate_9
set_option maxHeartbeats 4000000 in
set_option maxRecDepth 100000 in
theorem c_place (l : Launch) (D : va_G) (sz : Nat) (r rc : Nat) (cR : ClassId) (f : Nat → Int32) (n z : Int32) : cM l yX4_placeBehindNot (.code yX4_placeBehindNot cX4_placeBehindNot 1 (some .int)) 10 270 0 0 [.ref r] D [(cR, .int)] [(r, .inr (3, [.ref rc, .int n, .int z])), (rc, .inl (cR, 512, .inl f))] sz (S := Unit) (fun v _ => v = some (.int (r_place f))) (fun _ => [(r, .inr (3, [.ref rc, .int n, .int z])), (rc, .inl (cR, 512, .inl f))]) (fun _ => [(cR, .int)]) := by
  refine cM_of (by decide) (Nat.le_of_ble_eq_true rfl) ?_
  intro p e s m below meth c ls hF hsz hP hK hD hE hZ hA hl
  obtain ⟨hx, hb, hr, hml, hown, hlocks, hnm, htb, hts⟩ := hF
  have hown : s.vm.findClass RX4 = some m.cls := hown
  have hl : lv_has ls 1 [(0, .ref r)] := hl
  have hS : va_S (va_A [(r, .inr (3, [.ref rc, .int n, .int z])), (rc, .inl (cR, 512, .inl f))] sz) s.heap s.heap [] := va_S.rf
  refine lv_aload_n hx hb dX4_placeBehindNot_0 rfl (lv_at hl 0 rfl) ?_
  refine va_get (ci := 3) (v := .ref rc) (C := RX4) (T := TX4) (N := 3) hx hb hts inG_X4 hown hK hP 0 rfl rfl 0 (by decide) (hts _ tw_1_61) (fun _ h9 => h9) rfl dX4_placeBehindNot_1 ?_
  refine lv_iconst (v := 0) hx hb dX4_placeBehindNot_4 (by decide) ?_
  refine va_iald hx hb hK hP 1 0 rfl rfl (vi (by decide)) dX4_placeBehindNot_5 ?_
  refine ck_top (y := f ((0 : Int32).toNatClampNeg)) rfl ?_
  refine lv_bipush (v := 6) hx hb dX4_placeBehindNot_6 (by decide) ?_
  refine lv_icmp_ne (tgt := 15) hx hb dX4_placeBehindNot_8 (by decide) (fun c_8 => ?_) (fun c_8 => ?_)
  · refine lv_iconst (v := 0) hx hb dX4_placeBehindNot_15 (by decide) ?_
    exact ck_iret () hx hb hr rfl hlocks (congrArg (fun z9 => some (Value.int z9)) (show (0 : Int32) = r_place f from (by unfold r_place; rw [if_neg c_8]))) (hP.sub [0, 1] rfl) (hK.sub [0] rfl) (hD.sub [0, 1] (by decide) rfl) hS (by decide) (by decide) dX4_placeBehindNot_16
  · refine lv_iconst (v := 1) hx hb dX4_placeBehindNot_11 (by decide) ?_
    refine lv_goto (tgt := 16) hx hb dX4_placeBehindNot_12 (by decide) ?_
    exact ck_iret () hx hb hr rfl hlocks (congrArg (fun z9 => some (Value.int z9)) (show (1 : Int32) = r_place f from (by unfold r_place; rw [if_pos c_8]))) (hP.sub [0, 1] rfl) (hK.sub [0] rfl) (hD.sub [0, 1] (by decide) rfl) hS (by decide) (by decide) dX4_placeBehindNot_16
set_option maxHeartbeats 4000000 in
set_option maxRecDepth 100000 in
theorem c_toOpen (l : Launch) (D : va_G) (sz : Nat) (r rc : Nat) (cR : ClassId) (f : Nat → Int32) (n z : Int32) : cM l yX4_predicateToOpen (.code yX4_predicateToOpen cX4_predicateToOpen 1 (some .int)) 14 410 0 0 [.ref r] D [(cR, .int)] [(r, .inr (3, [.ref rc, .int n, .int z])), (rc, .inl (cR, 512, .inl f))] sz (S := Unit) (fun v _ => v = some (.int (k_pred (r_codeAt (r_place f) f n)))) (fun _ => [(r, .inr (3, [.ref rc, .int n, .int z])), (rc, .inl (cR, 512, .inl f))]) (fun _ => [(cR, .int)]) := by
  refine cM_of (by decide) (Nat.le_of_ble_eq_true rfl) ?_
  intro p e s m below meth c ls hF hsz hP hK hD hE hZ hA hl
  obtain ⟨hx, hb, hr, hml, hown, hlocks, hnm, htb, hts⟩ := hF
  have hown : s.vm.findClass RX4 = some m.cls := hown
  have hl : lv_has ls 1 [(0, .ref r)] := hl
  have hS : va_S (va_A [(r, .inr (3, [.ref rc, .int n, .int z])), (rc, .inl (cR, 512, .inl f))] sz) s.heap s.heap [] := va_S.rf
  refine lv_aload_n hx hb dX4_predicateToOpen_0 rfl (lv_at hl 0 rfl) ?_
  refine lv_aload_n hx hb dX4_predicateToOpen_1 rfl (lv_at hl 0 rfl) ?_
  refine ck_run (wr := []) (va_runV (C := RX4) (As := []) (rest := [.ref r]) ⟨hx, hb, hml, hown, hts⟩ (c_place l D s.heap.size r rc cR f n z) (cw_V (n := 0) hts tw_3_98 tw_3_100 tw_s35 tw_1_3 tw_3_101 (by decide +kernel) ⟨by decide, by decide⟩) ⟨pre.blind, va_recv (q := (RX4, TX4, 3)) hK hP (ci := 3) (q0 := 0) rfl rfl, fun U hU hW => ⟨rfl, pre.of (wc := [(r, .inr (3, [.ref rc, .int n, .int z])), (rc, .inl (cR, 512, .inl f))]) (tysc := [(cR, .int)]) (tk := [0]) hP hD hK hS hA hE hZ [0, 1] (by decide) rfl rfl rfl U hU hW⟩⟩ rfl rfl hl.1 rfl (lv_room (Nat.le_of_ble_eq_true rfl)) dX4_predicateToOpen_2 ⟨by decide, by decide⟩) hP hD hK hS hA [0, 1] [] rfl rfl (by decide) (by decide) (fun v u H locs hw hP hD hK9 hS => ?_)
  have hw : v = some (.int (r_place f)) := hw
  subst hw
  have hP : va_P D vwCl [(r, .inr (3, [.ref rc, .int n, .int z])), (rc, .inl (cR, 512, .inl f))] H := hP
  have hD : va_D _ [(r, .inr (3, [.ref rc, .int n, .int z])), (rc, .inl (cR, 512, .inl f))] := hD
  refine W.eq (g2 := F0 m 5 ls [.int (r_place f), .ref r]) rfl ?_
  refine ck_run (wr := []) (va_runV (C := RX4) (As := [.int (r_place f)]) (rest := []) ⟨hx, hb, hml, hown, hts⟩ (c_codeAt l D H.size r rc cR f n z (r_place f)) (cw_V (n := 1) hts tw_3_102 tw_3_104 tw_s36 tw_1_3 tw_3_105 (by decide +kernel) ⟨by decide, by decide⟩) ⟨pre.blind, va_recv (q := (RX4, TX4, 3)) hK hP (ci := 3) (q0 := 0) rfl rfl, fun U hU hW => ⟨rfl, pre.of (wc := [(r, .inr (3, [.ref rc, .int n, .int z])), (rc, .inl (cR, 512, .inl f))]) (tysc := [(cR, .int)]) (tk := [0]) hP hD hK hS hA hE hZ [0, 1] (by decide) rfl rfl rfl U hU hW⟩⟩ rfl rfl hl.1 rfl (lv_room (Nat.le_of_ble_eq_true rfl)) dX4_predicateToOpen_5 ⟨by decide, by decide⟩) hP hD hK hS hA [0, 1] [] rfl rfl (by decide) (by decide) (fun v u H locs hw hP hD hK9 hS => ?_)
  have hw : v = some (.int (r_codeAt (r_place f) f n)) := hw
  subst hw
  have hP : va_P D vwCl [(r, .inr (3, [.ref rc, .int n, .int z])), (rc, .inl (cR, 512, .inl f))] H := hP
  have hD : va_D _ [(r, .inr (3, [.ref rc, .int n, .int z])), (rc, .inl (cR, 512, .inl f))] := hD
  refine W.eq (g2 := F0 m 8 ls [.int (r_codeAt (r_place f) f n)]) rfl ?_
  refine ck_run (wr := [(r, .inr (3, [.ref rc, .int n, .int z])), (rc, .inl (cR, 512, .inl f))]) (va_runS (As := [.int (r_codeAt (r_place f) f n)]) (rest := []) ⟨hx, hb, hml, hown, hts⟩ (c_predIn l D H.size (r_codeAt (r_place f) f n)) (cw_S (n := 1) hts tw_3_106 tw_3_107 tw_1_8 tw_3_108 (by decide +kernel) ⟨by decide, by decide⟩) ⟨pre.blind, fun U hU hW => ⟨rfl, pre.of (wc := []) (tysc := []) (tk := []) hP hD hK hS hA hE hZ [] (by decide) rfl rfl rfl U hU hW⟩⟩ rfl rfl hl.1 rfl (lv_room (Nat.le_of_ble_eq_true rfl)) dX4_predicateToOpen_8 ⟨by decide, by decide⟩) hP hD hK hS hA [] [0, 1] rfl rfl (by decide) (by decide) (fun v u H locs hw hP hD hK9 hS => ?_)
  have hw : v = some (.int (k_pred (r_codeAt (r_place f) f n))) := hw
  subst hw
  have hP : va_P D vwCl [(r, .inr (3, [.ref rc, .int n, .int z])), (rc, .inl (cR, 512, .inl f))] H := hP
  have hD : va_D _ [(r, .inr (3, [.ref rc, .int n, .int z])), (rc, .inl (cR, 512, .inl f))] := hD
  refine W.eq (g2 := F0 m 11 ls [.int (k_pred (r_codeAt (r_place f) f n))]) rfl ?_
  exact ck_iret () hx hb hr rfl hlocks rfl (hP.sub [0, 1] rfl) (hK.sub [0] rfl) (hD.sub [0, 1] (by decide) rfl) hS (by decide) (by decide) dX4_predicateToOpen_11
set_option maxHeartbeats 4000000 in
set_option maxRecDepth 100000 in
theorem body_loop {p : Program} {l : Launch} {e : Env} {s : State} {m : MethodId} {args : Array Value} {below : List Frame} {meth : Method} {c : Code} {Q : State → Prop} {D : va_G} {A : Nat → Prop} {r rc : Nat} {cR : ClassId} {F : Nat → Int32} {n z : Int32} {a : Int32} (hx : p.tables.exec = Jvm.exec) (hb : c.code = cX4_leaveBody) (hml : c.maxLocals = 3) (hown : s.vm.findClass RX4 = some m.cls) (hts : ∀ w ∈ lw_G, w.before args s = true) (hE : ev s) (hZ : zz A s s.heap) (hA : ∀ q, s.heap.size ≤ q → A q) (hn : r_ok n) (hK : va_K D vwCl [(cR, .int)] s) (kont : ∀ (H : Heap) (locs : List Loc) (ls : Array Slot), va_P D vwCl [(r, .inr (3, [.ref rc, .int n, .int z])), (rc, .inl (cR, 512, .inl (mapTo (b_body a) F n.toNatClampNeg)))] H → va_D A [(r, .inr (3, [.ref rc, .int n, .int z])), (rc, .inl (cR, 512, .inl (mapTo (b_body a) F n.toNatClampNeg)))] → va_S A s.heap H locs → lv_has ls 3 [(1, .int a), (0, .ref r)] → W p l e (rmK 14 410 0 0) s m args below meth c H locs 0 0 Q (F0 m 95 ls [])) :
    ∀ (k i : Nat) (H : Heap) (locs : List Loc) (ls : Array Slot), i + k = n.toNatClampNeg → va_P D vwCl [(r, .inr (3, [.ref rc, .int n, .int z])), (rc, .inl (cR, 512, .inl (mapTo (b_body a) F i)))] H → va_D A [(r, .inr (3, [.ref rc, .int n, .int z])), (rc, .inl (cR, 512, .inl (mapTo (b_body a) F i)))] → va_S A s.heap H locs → lv_has ls 3 [(2, .int (nI i)), (1, .int a), (0, .ref r)] → W p l e (rmK 14 410 0 0) s m args below meth c H locs 0 0 Q (F0 m 20 ls []) := by
  obtain ⟨N, hN1, hN2, eN, eC⟩ := r_nat hn
  intro k
  induction k with
  | zero =>
    intro i H locs ls hi hP hD hS hl
    refine lv_iload_n hx hb dX4_leaveBody_20 rfl (lv_at hl 0 rfl) ?_
    refine lv_aload_n hx hb dX4_leaveBody_21 rfl (lv_at hl 2 rfl) ?_
    refine va_get (ci := 3) (v := .int n) (C := RX4) (T := TX4) (N := 3) hx hb hts inG_X4 hown hK hP 0 rfl rfl 1 (by decide) (hts _ tw_1_62) (fun _ h9 => h9) rfl dX4_leaveBody_22 ?_
    refine lv_icmp_ge (tgt := 95) hx hb dX4_leaveBody_25 (by decide) (fun _ => ?_) (fun c9 => absurd (by rw [eN, show i = N by omega]; exact Int32.le_refl _) c9)
    have ei : i = n.toNatClampNeg := by omega
    rw [ei] at hP hD
    exact kont H locs ls hP hD hS (lv_sub hl [1, 2] rfl)
  | succ k ih =>
    intro i H locs ls hi hP hD hS hl
    refine lv_iload_n hx hb dX4_leaveBody_20 rfl (lv_at hl 0 rfl) ?_
    refine lv_aload_n hx hb dX4_leaveBody_21 rfl (lv_at hl 2 rfl) ?_
    refine va_get (ci := 3) (v := .int n) (C := RX4) (T := TX4) (N := 3) hx hb hts inG_X4 hown hK hP 0 rfl rfl 1 (by decide) (hts _ tw_1_62) (fun _ h9 => h9) rfl dX4_leaveBody_22 ?_
    refine lv_icmp_ge (tgt := 95) hx hb dX4_leaveBody_25 (by decide) (fun c9 => absurd c9 (by rw [eN]; exact nI_ge (by omega) (by omega))) (fun _ => ?_)
    refine lv_iload_n hx hb dX4_leaveBody_28 rfl (lv_at hl 0 rfl) ?_
    refine lv_sipush (v := 512) hx hb dX4_leaveBody_29 (by decide) ?_
    refine lv_icmp_ge (tgt := 95) hx hb dX4_leaveBody_32 (by decide) (fun c9 => absurd c9 (by rw [show (512 : Int32) = nI 512 from rfl]; exact nI_ge (by omega) (by decide))) (fun _ => ?_)
    refine lv_aload_n hx hb dX4_leaveBody_35 rfl (lv_at hl 2 rfl) ?_
    refine va_get (ci := 3) (v := .ref rc) (C := RX4) (T := TX4) (N := 3) hx hb hts inG_X4 hown hK hP 0 rfl rfl 0 (by decide) (hts _ tw_1_61) (fun _ h9 => h9) rfl dX4_leaveBody_36 ?_
    refine lv_iload_n hx hb dX4_leaveBody_39 rfl (lv_at hl 0 rfl) ?_
    refine va_iald hx hb hK hP 1 0 rfl rfl (by rw [vp_in_iff, nI_toInt (by omega)]; omega) dX4_leaveBody_40 ?_
    refine ck_top (y := F i) (by rw [nI_clamp (by omega)]; exact mapTo_at _ _ _) ?_
    refine lv_iconst (v := 2) hx hb dX4_leaveBody_41 (by decide) ?_
    refine lv_icmp_ne (tgt := 55) hx hb dX4_leaveBody_42 (by decide) (fun c_42 => ?_) (fun c_42 => ?_)
    · refine lv_aload_n hx hb dX4_leaveBody_55 rfl (lv_at hl 2 rfl) ?_
      refine va_get (ci := 3) (v := .ref rc) (C := RX4) (T := TX4) (N := 3) hx hb hts inG_X4 hown hK hP 0 rfl rfl 0 (by decide) (hts _ tw_1_61) (fun _ h9 => h9) rfl dX4_leaveBody_56 ?_
      refine lv_iload_n hx hb dX4_leaveBody_59 rfl (lv_at hl 0 rfl) ?_
      refine va_iald hx hb hK hP 1 0 rfl rfl (by rw [vp_in_iff, nI_toInt (by omega)]; omega) dX4_leaveBody_60 ?_
      refine ck_top (y := F i) (by rw [nI_clamp (by omega)]; exact mapTo_at _ _ _) ?_
      refine ck_run (wr := [(r, .inr (3, [.ref rc, .int n, .int z])), (rc, .inl (cR, 512, .inl (mapTo (b_body a) F i)))]) (va_runS (As := [.int (F i)]) (rest := []) ⟨hx, hb, hml, hown, hts⟩ (c_kind l D H.size (F i)) (cw_S (n := 1) hts tw_2_177 tw_1_101 tw_1_8 tw_1_102 (by decide +kernel) ⟨by decide, by decide⟩) ⟨pre.blind, fun U hU hW => ⟨rfl, pre.of (wc := []) (tysc := []) (tk := []) hP hD hK hS hA hE hZ [] (by decide) rfl rfl rfl U hU hW⟩⟩ rfl rfl hl.1 rfl (lv_room (Nat.le_of_ble_eq_true rfl)) dX4_leaveBody_61 ⟨by decide, by decide⟩) hP hD hK hS hA [] [0, 1] rfl rfl (by decide) (by decide) (fun v u H locs hw hP hD hK9 hS => ?_)
      have hw : v = some (.int ((F i) &&& 15)) := hw
      subst hw
      have hP : va_P D vwCl [(r, .inr (3, [.ref rc, .int n, .int z])), (rc, .inl (cR, 512, .inl (mapTo (b_body a) F i)))] H := hP
      have hD : va_D _ [(r, .inr (3, [.ref rc, .int n, .int z])), (rc, .inl (cR, 512, .inl (mapTo (b_body a) F i)))] := hD
      refine W.eq (g2 := F0 m 64 ls [.int ((F i) &&& 15)]) rfl ?_
      refine lv_iconst (v := 2) hx hb dX4_leaveBody_64 (by decide) ?_
      refine lv_icmp_ne (tgt := 89) hx hb dX4_leaveBody_65 (by decide) (fun c_65 => ?_) (fun c_65 => ?_)
      · obtain ⟨z_1, ez_1⟩ : ∃ z : Int32, z = (nI i) + 1 := ⟨_, rfl⟩
        refine lv_iinc (v := z_1) (lv' := [(2, .int z_1), (1, .int a), (0, .ref r)]) hx hb dX4_leaveBody_89 hl (k := 0) rfl (by rw [ez_1]; rfl) (by decide) rfl (fun ls hl => ?_)
        refine lv_goto (tgt := 20) hx hb dX4_leaveBody_92 (by decide) ?_
        have ez : z_1 = nI (i + 1) := by rw [ez_1]; exact nI_1 i
        subst ez
        have ef : mapTo (b_body a) F i = mapTo (b_body a) F (i + 1) := mapTo_same (by unfold b_body; rw [if_neg c_42, if_neg c_65])
        rw [ef] at hP hD
        exact ih (i + 1) H _ ls (by omega) (hP.sub [0, 1] rfl) (hD.sub [0, 1] (by decide) rfl) hS (lv_sub hl [0, 1, 2] rfl)
      · refine lv_aload_n hx hb dX4_leaveBody_68 rfl (lv_at hl 2 rfl) ?_
        refine va_get (ci := 3) (v := .ref rc) (C := RX4) (T := TX4) (N := 3) hx hb hts inG_X4 hown hK hP 0 rfl rfl 0 (by decide) (hts _ tw_1_61) (fun _ h9 => h9) rfl dX4_leaveBody_69 ?_
        refine lv_iload_n hx hb dX4_leaveBody_72 rfl (lv_at hl 0 rfl) ?_
        refine lv_iconst (v := 2) hx hb dX4_leaveBody_73 (by decide) ?_
        refine lv_aload_n hx hb dX4_leaveBody_74 rfl (lv_at hl 2 rfl) ?_
        refine va_get (ci := 3) (v := .ref rc) (C := RX4) (T := TX4) (N := 3) hx hb hts inG_X4 hown hK hP 0 rfl rfl 0 (by decide) (hts _ tw_1_61) (fun _ h9 => h9) rfl dX4_leaveBody_75 ?_
        refine lv_iload_n hx hb dX4_leaveBody_78 rfl (lv_at hl 0 rfl) ?_
        refine va_iald hx hb hK hP 1 0 rfl rfl (by rw [vp_in_iff, nI_toInt (by omega)]; omega) dX4_leaveBody_79 ?_
        refine ck_top (y := F i) (by rw [nI_clamp (by omega)]; exact mapTo_at _ _ _) ?_
        refine ck_run (wr := [(r, .inr (3, [.ref rc, .int n, .int z])), (rc, .inl (cR, 512, .inl (mapTo (b_body a) F i)))]) (va_runS (As := [.int (F i)]) (rest := [.int 2, .int (nI i), .ref rc]) ⟨hx, hb, hml, hown, hts⟩ (c_value l D H.size (F i)) (cw_S (n := 1) hts tw_2_185 tw_1_98 tw_1_8 tw_1_99 (by decide +kernel) ⟨by decide, by decide⟩) ⟨pre.blind, fun U hU hW => ⟨rfl, pre.of (wc := []) (tysc := []) (tk := []) hP hD hK hS hA hE hZ [] (by decide) rfl rfl rfl U hU hW⟩⟩ rfl rfl hl.1 rfl (lv_room (Nat.le_of_ble_eq_true rfl)) dX4_leaveBody_80 ⟨by decide, by decide⟩) hP hD hK hS hA [] [0, 1] rfl rfl (by decide) (by decide) (fun v u H locs hw hP hD hK9 hS => ?_)
        have hw : v = some (.int ((F i) >>> ((4 : Int32) &&& 31))) := hw
        subst hw
        have hP : va_P D vwCl [(r, .inr (3, [.ref rc, .int n, .int z])), (rc, .inl (cR, 512, .inl (mapTo (b_body a) F i)))] H := hP
        have hD : va_D _ [(r, .inr (3, [.ref rc, .int n, .int z])), (rc, .inl (cR, 512, .inl (mapTo (b_body a) F i)))] := hD
        refine W.eq (g2 := F0 m 83 ls [.int ((F i) >>> ((4 : Int32) &&& 31)), .int 2, .int (nI i), .ref rc]) rfl ?_
        refine lv_iconst (v := 1) hx hb dX4_leaveBody_83 (by decide) ?_
        refine lv_isub hx hb dX4_leaveBody_84 ?_
        refine ck_top (y := F i >>> ((4 : Int32) &&& 31) - 1) rfl ?_
        refine ck_run (wr := [(r, .inr (3, [.ref rc, .int n, .int z])), (rc, .inl (cR, 512, .inl (mapTo (b_body a) F i)))]) (va_runS (As := [.int 2, .int (F i >>> ((4 : Int32) &&& 31) - 1)]) (rest := [.int (nI i), .ref rc]) ⟨hx, hb, hml, hown, hts⟩ (c_of l D H.size 2 (F i >>> ((4 : Int32) &&& 31) - 1)) (cw_S (n := 2) hts tw_2_186 tw_2_60 tw_1_8 tw_2_61 (by decide +kernel) ⟨by decide, by decide⟩) ⟨pre.blind, fun U hU hW => ⟨rfl, pre.of (wc := []) (tysc := []) (tk := []) hP hD hK hS hA hE hZ [] (by decide) rfl rfl rfl U hU hW⟩⟩ rfl rfl hl.1 rfl (lv_room (Nat.le_of_ble_eq_true rfl)) dX4_leaveBody_85 ⟨by decide, by decide⟩) hP hD hK hS hA [] [0, 1] rfl rfl (by decide) (by decide) (fun v u H locs hw hP hD hK9 hS => ?_)
        have hw : v = some (.int ((F i >>> ((4 : Int32) &&& 31) - 1) <<< ((4 : Int32) &&& 31) ||| 2)) := hw
        subst hw
        have hP : va_P D vwCl [(r, .inr (3, [.ref rc, .int n, .int z])), (rc, .inl (cR, 512, .inl (mapTo (b_body a) F i)))] H := hP
        have hD : va_D _ [(r, .inr (3, [.ref rc, .int n, .int z])), (rc, .inl (cR, 512, .inl (mapTo (b_body a) F i)))] := hD
        refine W.eq (g2 := F0 m 88 ls [.int ((F i >>> ((4 : Int32) &&& 31) - 1) <<< ((4 : Int32) &&& 31) ||| 2), .int (nI i), .ref rc]) rfl ?_
        refine va_iast hx hb hK hP hD hS 1 0 rfl rfl (by rw [vp_in_iff, nI_toInt (by omega)]; omega) dX4_leaveBody_88 (fun H locs hP hD hS => ?_)
        have hP : va_P D vwCl [(r, .inr (3, [.ref rc, .int n, .int z])), (rc, .inl (cR, 512, .inl (upd (mapTo (b_body a) F i) ((nI i).toNatClampNeg) ((F i >>> ((4 : Int32) &&& 31) - 1) <<< ((4 : Int32) &&& 31) ||| 2))))] H := hP
        have hD : va_D _ [(r, .inr (3, [.ref rc, .int n, .int z])), (rc, .inl (cR, 512, .inl (upd (mapTo (b_body a) F i) ((nI i).toNatClampNeg) ((F i >>> ((4 : Int32) &&& 31) - 1) <<< ((4 : Int32) &&& 31) ||| 2))))] := hD
        obtain ⟨z_2, ez_2⟩ : ∃ z : Int32, z = (nI i) + 1 := ⟨_, rfl⟩
        refine lv_iinc (v := z_2) (lv' := [(2, .int z_2), (1, .int a), (0, .ref r)]) hx hb dX4_leaveBody_89 hl (k := 0) rfl (by rw [ez_2]; rfl) (by decide) rfl (fun ls hl => ?_)
        refine lv_goto (tgt := 20) hx hb dX4_leaveBody_92 (by decide) ?_
        have ez : z_2 = nI (i + 1) := by rw [ez_2]; exact nI_1 i
        subst ez
        have ef : upd (mapTo (b_body a) F i) ((nI i).toNatClampNeg) ((F i >>> ((4 : Int32) &&& 31) - 1) <<< ((4 : Int32) &&& 31) ||| 2) = mapTo (b_body a) F (i + 1) := by rw [nI_clamp (show i < 2 ^ 31 by omega)]; exact mapTo_up (by unfold b_body; rw [if_neg c_42, if_pos c_65])
        rw [ef] at hP hD
        exact ih (i + 1) H _ ls (by omega) (hP.sub [0, 1] rfl) (hD.sub [0, 1] (by decide) rfl) hS (lv_sub hl [0, 1, 2] rfl)
    · refine lv_aload_n hx hb dX4_leaveBody_45 rfl (lv_at hl 2 rfl) ?_
      refine va_get (ci := 3) (v := .ref rc) (C := RX4) (T := TX4) (N := 3) hx hb hts inG_X4 hown hK hP 0 rfl rfl 0 (by decide) (hts _ tw_1_61) (fun _ h9 => h9) rfl dX4_leaveBody_46 ?_
      refine lv_iload_n hx hb dX4_leaveBody_49 rfl (lv_at hl 0 rfl) ?_
      refine lv_iload_n hx hb dX4_leaveBody_50 rfl (lv_at hl 1 rfl) ?_
      refine va_iast hx hb hK hP hD hS 1 0 rfl rfl (by rw [vp_in_iff, nI_toInt (by omega)]; omega) dX4_leaveBody_51 (fun H locs hP hD hS => ?_)
      have hP : va_P D vwCl [(r, .inr (3, [.ref rc, .int n, .int z])), (rc, .inl (cR, 512, .inl (upd (mapTo (b_body a) F i) ((nI i).toNatClampNeg) a)))] H := hP
      have hD : va_D _ [(r, .inr (3, [.ref rc, .int n, .int z])), (rc, .inl (cR, 512, .inl (upd (mapTo (b_body a) F i) ((nI i).toNatClampNeg) a)))] := hD
      refine lv_goto (tgt := 89) hx hb dX4_leaveBody_52 (by decide) ?_
      obtain ⟨z_3, ez_3⟩ : ∃ z : Int32, z = (nI i) + 1 := ⟨_, rfl⟩
      refine lv_iinc (v := z_3) (lv' := [(2, .int z_3), (1, .int a), (0, .ref r)]) hx hb dX4_leaveBody_89 hl (k := 0) rfl (by rw [ez_3]; rfl) (by decide) rfl (fun ls hl => ?_)
      refine lv_goto (tgt := 20) hx hb dX4_leaveBody_92 (by decide) ?_
      have ez : z_3 = nI (i + 1) := by rw [ez_3]; exact nI_1 i
      subst ez
      have ef : upd (mapTo (b_body a) F i) ((nI i).toNatClampNeg) a = mapTo (b_body a) F (i + 1) := by rw [nI_clamp (show i < 2 ^ 31 by omega)]; exact mapTo_up (by unfold b_body; rw [if_pos c_42])
      rw [ef] at hP hD
      exact ih (i + 1) H _ ls (by omega) (hP.sub [0, 1] rfl) (hD.sub [0, 1] (by decide) rfl) hS (lv_sub hl [0, 1, 2] rfl)
set_option maxHeartbeats 4000000 in
set_option maxRecDepth 100000 in
theorem c_body (l : Launch) (D : va_G) (sz : Nat) (r rc : Nat) (cR : ClassId) (f : Nat → Int32) (n z : Int32) (a : Int32) (hn : r_ok n) : cM l yX4_leaveBody (.code yX4_leaveBody cX4_leaveBody 3 (some .boolean)) 14 410 0 0 [.ref r, .int a] D [(cR, .int)] [(r, .inr (3, [.ref rc, .int n, .int z])), (rc, .inl (cR, 512, .inl f))] sz (S := (Nat → Int32) × Int32 × Int32) (fun v u => v = some (.int (r_isAll f)) ∧ r_body a f n z = (u.1, u.2.1, u.2.2)) (fun u => [(r, .inr (3, [.ref rc, .int u.2.1, .int u.2.2])), (rc, .inl (cR, 512, .inl u.1))]) (fun u => [(cR, .int)]) := by
  refine cM_of (by decide) (Nat.le_of_ble_eq_true rfl) ?_
  intro p e s m below meth c ls hF hsz hP hK hD hE hZ hA hl
  obtain ⟨hx, hb, hr, hml, hown, hlocks, hnm, htb, hts⟩ := hF
  have hown : s.vm.findClass RX4 = some m.cls := hown
  have hl : lv_has ls 3 [(0, .ref r), (1, .int a)] := hl
  have hS : va_S (va_A [(r, .inr (3, [.ref rc, .int n, .int z])), (rc, .inl (cR, 512, .inl f))] sz) s.heap s.heap [] := va_S.rf
  refine lv_aload_n hx hb dX4_leaveBody_0 rfl (lv_at hl 0 rfl) ?_
  refine va_get (ci := 3) (v := .ref rc) (C := RX4) (T := TX4) (N := 3) hx hb hts inG_X4 hown hK hP 0 rfl rfl 0 (by decide) (hts _ tw_1_61) (fun _ h9 => h9) rfl dX4_leaveBody_1 ?_
  refine lv_iconst (v := 0) hx hb dX4_leaveBody_4 (by decide) ?_
  refine va_iald hx hb hK hP 1 0 rfl rfl (vi (by decide)) dX4_leaveBody_5 ?_
  refine ck_top (y := f ((0 : Int32).toNatClampNeg)) rfl ?_
  refine lv_bipush (v := 8) hx hb dX4_leaveBody_6 (by decide) ?_
  refine lv_icmp_eq (tgt := 13) hx hb dX4_leaveBody_8 (by decide) (fun c_8 => ?_) (fun c_8 => ?_)
  · refine lv_aload_n hx hb dX4_leaveBody_13 rfl (lv_at hl 0 rfl) ?_
    refine lv_iconst (v := 1) hx hb dX4_leaveBody_14 (by decide) ?_
    refine ck_run (wr := []) (va_runV (C := RX4) (As := [.int 1]) (rest := []) ⟨hx, hb, hml, hown, hts⟩ (c_drop l D s.heap.size r rc cR f n z 1 hn) (cw_V (n := 1) hts tw_2_145 tw_2_147 tw_s13 tw_1_3 tw_2_148 (by decide +kernel) ⟨by decide, by decide⟩) ⟨pre.blind, va_recv (q := (RX4, TX4, 3)) hK hP (ci := 3) (q0 := 0) rfl rfl, fun U hU hW => ⟨rfl, pre.of (wc := [(r, .inr (3, [.ref rc, .int n, .int z])), (rc, .inl (cR, 512, .inl f))]) (tysc := [(cR, .int)]) (tk := [0]) hP hD hK hS hA hE hZ [0, 1] (by decide) rfl rfl rfl U hU hW⟩⟩ rfl rfl hl.1 rfl (lv_room (Nat.le_of_ble_eq_true rfl)) dX4_leaveBody_15 ⟨by decide, by decide⟩) hP hD hK hS hA [0, 1] [] rfl rfl (by decide) (by decide) (fun v u H locs hw hP hD hK9 hS => ?_)
    obtain ⟨f1_1, n1_2, z1_3⟩ := u
    have hw : v = none ∧ r_drop 1 f n z = (f1_1, n1_2, z1_3) := hw
    obtain ⟨rfl, hq_4⟩ := hw
    have hP : va_P D vwCl [(r, .inr (3, [.ref rc, .int n1_2, .int z1_3])), (rc, .inl (cR, 512, .inl f1_1))] H := hP
    have hD : va_D _ [(r, .inr (3, [.ref rc, .int n1_2, .int z1_3])), (rc, .inl (cR, 512, .inl f1_1))] := hD
    refine W.eq (g2 := F0 m 18 ls []) rfl ?_
    refine lv_iconst (v := 0) hx hb dX4_leaveBody_18 (by decide) ?_
    refine lv_istore_n (lv' := [(2, .int 0), (0, .ref r), (1, .int a)]) hx hb dX4_leaveBody_19 rfl hl (by decide) rfl (fun ls hl => ?_)
    refine body_loop (F := f1_1) (n := n1_2) (z := z1_3) hx hb hml hown hts hE hZ hA (ok_of hq_4 (r_drop_ok hn)) hK (fun H locs ls hP hD hS hl => ?_) _ 0 H _ ls (Nat.zero_add _) (hP.sub [0, 1] (by rw [mapTo_0]; rfl)) (hD.sub [0, 1] (by decide) (by rw [mapTo_0]; rfl)) hS (lv_sub hl [0, 2, 1] rfl)
    refine lv_iconst (v := 1) hx hb dX4_leaveBody_95 (by decide) ?_
    exact ck_iret ⟨mapTo (b_body a) f1_1 n1_2.toNatClampNeg, n1_2, z1_3⟩ hx hb hr rfl hlocks ⟨(congrArg (fun z9 => some (Value.int z9)) (show (1 : Int32) = r_isAll f from (by unfold r_isAll; rw [if_pos c_8]))), (by first | (unfold r_body; rw [if_pos c_8] <;> (first | rfl | exact hq_4)) | (simp only [r_body, if_pos c_8, hq_4]))⟩ (hP.sub [0, 1] rfl) (hK.sub [0] rfl) (hD.sub [0, 1] (by decide) rfl) hS (by decide) (by decide) dX4_leaveBody_96
  · refine lv_iconst (v := 0) hx hb dX4_leaveBody_11 (by decide) ?_
    exact ck_iret ⟨f, n, z⟩ hx hb hr rfl hlocks ⟨(congrArg (fun z9 => some (Value.int z9)) (show (0 : Int32) = r_isAll f from (by unfold r_isAll; rw [if_neg c_8]))), (by first | (unfold r_body; rw [if_neg c_8] <;> (first | rfl)) | (simp only [r_body, if_neg c_8]))⟩ (hP.sub [0, 1] rfl) (hK.sub [0] rfl) (hD.sub [0, 1] (by decide) rfl) hS (by decide) (by decide) dX4_leaveBody_12
