set_option maxHeartbeats 4000000 in
set_option maxRecDepth 100000 in
theorem c_isPred (l : Launch) (D : va_G) (sz : Nat) (h fo mn df bl tr wk sd : Nat) (x : Int32) : cM l yX5_isPredicate (.code yX5_isPredicate cX5_isPredicate 2 (some .boolean)) 10 270 0 0 [.ref h, .int x] D [] [(h, .inr (4, [.ref fo, .int 0, .int 0, .ref mn, .ref df, .int 0, .ref bl, .int 0, .int 0, .int 1, .int 0, .ref tr, .ref wk, .ref sd]))] sz (S := Unit) (fun v _ => v = some (.int 0)) (fun _ => [(h, .inr (4, [.ref fo, .int 0, .int 0, .ref mn, .ref df, .int 0, .ref bl, .int 0, .int 0, .int 1, .int 0, .ref tr, .ref wk, .ref sd]))]) (fun _ => []) := by
  refine cM_of (by decide) (Nat.le_of_ble_eq_true rfl) ?_
  intro p e s m below meth c ls hF hsz hP hK hD hE hZ hA hl
  obtain ⟨hx, hb, hr, hml, hown, hlocks, hnm, htb, hts⟩ := hF
  have hown : s.vm.findClass RX5 = some m.cls := hown
  have hl : lv_has ls 2 [(0, .ref h), (1, .int x)] := hl
  have hS : va_S (va_A [(h, .inr (4, [.ref fo, .int 0, .int 0, .ref mn, .ref df, .int 0, .ref bl, .int 0, .int 0, .int 1, .int 0, .ref tr, .ref wk, .ref sd]))] sz) s.heap s.heap [] := va_S.rf
  refine lv_iload_n hx hb dX5_isPredicate_0 rfl (lv_at hl 1 rfl) ?_
  refine lv_if_lt (tgt := 22) hx hb dX5_isPredicate_1 (by decide) (fun c_1 => ?_) (fun c_1 => ?_)
  · refine lv_iconst (v := 0) hx hb dX5_isPredicate_22 (by decide) ?_
    exact ck_iret () hx hb hr rfl hlocks rfl (hP.sub [0] rfl) (hK.sub [] rfl) (hD.sub [0] (by decide) rfl) hS (by decide) (by decide) dX5_isPredicate_23
  · refine lv_iload_n hx hb dX5_isPredicate_4 rfl (lv_at hl 1 rfl) ?_
    refine lv_aload_n hx hb dX5_isPredicate_5 rfl (lv_at hl 0 rfl) ?_
    refine va_get (ci := 4) (v := .int 0) (C := RX5) (T := TX5) (N := 14) hx hb hts inG_X5 hown hK hP 0 rfl rfl 5 (by decide) (hts _ tw_1_122) (fun _ h9 => h9) rfl dX5_isPredicate_6 ?_
    refine lv_icmp_ge (tgt := 22) hx hb dX5_isPredicate_9 (by decide) (fun _ => ?_) (fun c9 => absurd (Int32.not_lt.mp c_1) c9)
    refine lv_iconst (v := 0) hx hb dX5_isPredicate_22 (by decide) ?_
    exact ck_iret () hx hb hr rfl hlocks rfl (hP.sub [0] rfl) (hK.sub [] rfl) (hD.sub [0] (by decide) rfl) hS (by decide) (by decide) dX5_isPredicate_23
set_option maxHeartbeats 4000000 in
set_option maxRecDepth 100000 in
theorem c_formAt (l : Launch) (D : va_G) (sz : Nat) (h fo mn df bl tr wk sd : Nat) (x : Int32) : cM l yX5_formAt (.code yX5_formAt cX5_formAt 2 (some (.object "ThesisDesk$Form"))) 10 270 0 0 [.ref h, .int x] D [] [(h, .inr (4, [.ref fo, .int 0, .int 0, .ref mn, .ref df, .int 0, .ref bl, .int 0, .int 0, .int 1, .int 0, .ref tr, .ref wk, .ref sd]))] sz (S := Unit) (fun v _ => v = some (.null)) (fun _ => [(h, .inr (4, [.ref fo, .int 0, .int 0, .ref mn, .ref df, .int 0, .ref bl, .int 0, .int 0, .int 1, .int 0, .ref tr, .ref wk, .ref sd]))]) (fun _ => []) := by
  refine cM_of (by decide) (Nat.le_of_ble_eq_true rfl) ?_
  intro p e s m below meth c ls hF hsz hP hK hD hE hZ hA hl
  obtain ⟨hx, hb, hr, hml, hown, hlocks, hnm, htb, hts⟩ := hF
  have hown : s.vm.findClass RX5 = some m.cls := hown
  have hl : lv_has ls 2 [(0, .ref h), (1, .int x)] := hl
  have hS : va_S (va_A [(h, .inr (4, [.ref fo, .int 0, .int 0, .ref mn, .ref df, .int 0, .ref bl, .int 0, .int 0, .int 1, .int 0, .ref tr, .ref wk, .ref sd]))] sz) s.heap s.heap [] := va_S.rf
  refine lv_iload_n hx hb dX5_formAt_0 rfl (lv_at hl 1 rfl) ?_
  refine lv_if_lt (tgt := 28) hx hb dX5_formAt_1 (by decide) (fun c_1 => ?_) (fun c_1 => ?_)
  · refine lv_null hx hb dX5_formAt_28 ?_
    exact ck_aret () hx hb hr (Or.inl ⟨_, rfl⟩) (Or.inl rfl) hlocks rfl (hP.sub [0] rfl) (hK.sub [] rfl) (hD.sub [0] (by decide) rfl) hS (by decide) (by decide) dX5_formAt_29
  · refine lv_iload_n hx hb dX5_formAt_4 rfl (lv_at hl 1 rfl) ?_
    refine lv_aload_n hx hb dX5_formAt_5 rfl (lv_at hl 0 rfl) ?_
    refine va_get (ci := 4) (v := .int 0) (C := RX5) (T := TX5) (N := 14) hx hb hts inG_X5 hown hK hP 0 rfl rfl 1 (by decide) (hts _ tw_1_118) (fun _ h9 => h9) rfl dX5_formAt_6 ?_
    refine lv_icmp_ge (tgt := 28) hx hb dX5_formAt_9 (by decide) (fun _ => ?_) (fun c9 => absurd (Int32.not_lt.mp c_1) c9)
    refine lv_null hx hb dX5_formAt_28 ?_
    exact ck_aret () hx hb hr (Or.inl ⟨_, rfl⟩) (Or.inl rfl) hlocks rfl (hP.sub [0] rfl) (hK.sub [] rfl) (hD.sub [0] (by decide) rfl) hS (by decide) (by decide) dX5_formAt_29
set_option maxHeartbeats 4000000 in
set_option maxRecDepth 100000 in
theorem c_wholeAt (l : Launch) (D : va_G) (sz : Nat) (h fo mn df bl tr wk sd : Nat) (x : Int32) : cM l yX5_wholeAt (.code yX5_wholeAt cX5_wholeAt 3 (some (.object "ThesisDesk$Form"))) 12 340 0 0 [.ref h, .int x] D [] [(h, .inr (4, [.ref fo, .int 0, .int 0, .ref mn, .ref df, .int 0, .ref bl, .int 0, .int 0, .int 1, .int 0, .ref tr, .ref wk, .ref sd]))] sz (S := Unit) (fun v _ => v = some (.null)) (fun _ => [(h, .inr (4, [.ref fo, .int 0, .int 0, .ref mn, .ref df, .int 0, .ref bl, .int 0, .int 0, .int 1, .int 0, .ref tr, .ref wk, .ref sd]))]) (fun _ => []) := by
  refine cM_of (by decide) (Nat.le_of_ble_eq_true rfl) ?_
  intro p e s m below meth c ls hF hsz hP hK hD hE hZ hA hl
  obtain ⟨hx, hb, hr, hml, hown, hlocks, hnm, htb, hts⟩ := hF
  have hown : s.vm.findClass RX5 = some m.cls := hown
  have hl : lv_has ls 3 [(0, .ref h), (1, .int x)] := hl
  have hS : va_S (va_A [(h, .inr (4, [.ref fo, .int 0, .int 0, .ref mn, .ref df, .int 0, .ref bl, .int 0, .int 0, .int 1, .int 0, .ref tr, .ref wk, .ref sd]))] sz) s.heap s.heap [] := va_S.rf
  refine lv_aload_n hx hb dX5_wholeAt_0 rfl (lv_at hl 0 rfl) ?_
  refine lv_iload_n hx hb dX5_wholeAt_1 rfl (lv_at hl 1 rfl) ?_
  refine ck_run (wr := []) (va_runV (C := RX5) (As := [.int x]) (rest := []) ⟨hx, hb, hml, hown, hts⟩ (c_formAt l D s.heap.size h fo mn df bl tr wk sd x) (cw_V (n := 1) hts tw_2_31 tw_2_33 tw_s3 tw_1_1 tw_2_34 (by decide +kernel) ⟨by decide, by decide⟩) ⟨pre.blind, va_recv (q := (RX5, TX5, 14)) hK hP (ci := 4) (q0 := 0) rfl rfl, fun U hU hW => ⟨rfl, pre.of (wc := [(h, .inr (4, [.ref fo, .int 0, .int 0, .ref mn, .ref df, .int 0, .ref bl, .int 0, .int 0, .int 1, .int 0, .ref tr, .ref wk, .ref sd]))]) (tysc := []) (tk := []) hP hD hK hS hA hE hZ [0] (by decide) rfl rfl rfl U hU hW⟩⟩ rfl rfl hl.1 rfl (lv_room (Nat.le_of_ble_eq_true rfl)) dX5_wholeAt_2 ⟨by decide, by decide⟩) hP hD hK hS hA [0] [] rfl rfl (by decide) (by decide) (fun v u H locs hw hP hD hK9 hS => ?_)
  have hw : v = some (.null) := hw
  subst hw
  have hP : va_P D vwCl [(h, .inr (4, [.ref fo, .int 0, .int 0, .ref mn, .ref df, .int 0, .ref bl, .int 0, .int 0, .int 1, .int 0, .ref tr, .ref wk, .ref sd]))] H := hP
  have hD : va_D _ [(h, .inr (4, [.ref fo, .int 0, .int 0, .ref mn, .ref df, .int 0, .ref bl, .int 0, .int 0, .int 1, .int 0, .ref tr, .ref wk, .ref sd]))] := hD
  refine W.eq (g2 := F0 m 5 ls [.null]) rfl ?_
  refine lv_astore_nN (lv' := [(2, .null), (0, .ref h), (1, .int x)]) hx hb dX5_wholeAt_5 rfl hl (by decide) rfl (fun ls hl => ?_)
  refine lv_aload_nN hx hb dX5_wholeAt_6 rfl (lv_at hl 0 rfl) ?_
  refine lv_ifnullN (tgt := 21) hx hb dX5_wholeAt_7 (by decide) ?_
  refine lv_null hx hb dX5_wholeAt_21 ?_
  exact ck_aret () hx hb hr (Or.inl ⟨_, rfl⟩) (Or.inl rfl) hlocks rfl (hP.sub [0] rfl) (hK.sub [] rfl) (hD.sub [0] (by decide) rfl) hS (by decide) (by decide) dX5_wholeAt_22
set_option maxHeartbeats 4000000 in
set_option maxRecDepth 100000 in
theorem c_formulaAt (l : Launch) (D : va_G) (sz : Nat) (h fo mn df bl tr wk sd : Nat) (x : Int32) : cM l yX5_formulaAt (.code yX5_formulaAt cX5_formulaAt 3 (some (.object "ThesisDesk$Form"))) 14 410 0 0 [.ref h, .int x] D [] [(h, .inr (4, [.ref fo, .int 0, .int 0, .ref mn, .ref df, .int 0, .ref bl, .int 0, .int 0, .int 1, .int 0, .ref tr, .ref wk, .ref sd]))] sz (S := Unit) (fun v _ => v = some (.null)) (fun _ => [(h, .inr (4, [.ref fo, .int 0, .int 0, .ref mn, .ref df, .int 0, .ref bl, .int 0, .int 0, .int 1, .int 0, .ref tr, .ref wk, .ref sd]))]) (fun _ => []) := by
  refine cM_of (by decide) (Nat.le_of_ble_eq_true rfl) ?_
  intro p e s m below meth c ls hF hsz hP hK hD hE hZ hA hl
  obtain ⟨hx, hb, hr, hml, hown, hlocks, hnm, htb, hts⟩ := hF
  have hown : s.vm.findClass RX5 = some m.cls := hown
  have hl : lv_has ls 3 [(0, .ref h), (1, .int x)] := hl
  have hS : va_S (va_A [(h, .inr (4, [.ref fo, .int 0, .int 0, .ref mn, .ref df, .int 0, .ref bl, .int 0, .int 0, .int 1, .int 0, .ref tr, .ref wk, .ref sd]))] sz) s.heap s.heap [] := va_S.rf
  refine lv_aload_n hx hb dX5_formulaAt_0 rfl (lv_at hl 0 rfl) ?_
  refine lv_iload_n hx hb dX5_formulaAt_1 rfl (lv_at hl 1 rfl) ?_
  refine ck_run (wr := []) (va_runV (C := RX5) (As := [.int x]) (rest := []) ⟨hx, hb, hml, hown, hts⟩ (c_wholeAt l D s.heap.size h fo mn df bl tr wk sd x) (cw_V (n := 1) hts tw_2_27 tw_2_29 tw_s2 tw_1_1 tw_2_30 (by decide +kernel) ⟨by decide, by decide⟩) ⟨pre.blind, va_recv (q := (RX5, TX5, 14)) hK hP (ci := 4) (q0 := 0) rfl rfl, fun U hU hW => ⟨rfl, pre.of (wc := [(h, .inr (4, [.ref fo, .int 0, .int 0, .ref mn, .ref df, .int 0, .ref bl, .int 0, .int 0, .int 1, .int 0, .ref tr, .ref wk, .ref sd]))]) (tysc := []) (tk := []) hP hD hK hS hA hE hZ [0] (by decide) rfl rfl rfl U hU hW⟩⟩ rfl rfl hl.1 rfl (lv_room (Nat.le_of_ble_eq_true rfl)) dX5_formulaAt_2 ⟨by decide, by decide⟩) hP hD hK hS hA [0] [] rfl rfl (by decide) (by decide) (fun v u H locs hw hP hD hK9 hS => ?_)
  have hw : v = some (.null) := hw
  subst hw
  have hP : va_P D vwCl [(h, .inr (4, [.ref fo, .int 0, .int 0, .ref mn, .ref df, .int 0, .ref bl, .int 0, .int 0, .int 1, .int 0, .ref tr, .ref wk, .ref sd]))] H := hP
  have hD : va_D _ [(h, .inr (4, [.ref fo, .int 0, .int 0, .ref mn, .ref df, .int 0, .ref bl, .int 0, .int 0, .int 1, .int 0, .ref tr, .ref wk, .ref sd]))] := hD
  refine W.eq (g2 := F0 m 5 ls [.null]) rfl ?_
  refine lv_astore_nN (lv' := [(2, .null), (0, .ref h), (1, .int x)]) hx hb dX5_formulaAt_5 rfl hl (by decide) rfl (fun ls hl => ?_)
  refine lv_aload_nN hx hb dX5_formulaAt_6 rfl (lv_at hl 0 rfl) ?_
  refine lv_ifnullN (tgt := 21) hx hb dX5_formulaAt_7 (by decide) ?_
  refine lv_null hx hb dX5_formulaAt_21 ?_
  exact ck_aret () hx hb hr (Or.inl ⟨_, rfl⟩) (Or.inl rfl) hlocks rfl (hP.sub [0] rfl) (hK.sub [] rfl) (hD.sub [0] (by decide) rfl) hS (by decide) (by decide) dX5_formulaAt_22
set_option maxHeartbeats 4000000 in
set_option maxRecDepth 100000 in
theorem c_closedAt (l : Launch) (D : va_G) (sz : Nat) (h fo mn df bl tr wk sd : Nat) (x : Int32) : cM l yX5_closedAt (.code yX5_closedAt cX5_closedAt 3 (some (.object "ThesisDesk$Form"))) 16 480 0 0 [.ref h, .int x] D [] [(h, .inr (4, [.ref fo, .int 0, .int 0, .ref mn, .ref df, .int 0, .ref bl, .int 0, .int 0, .int 1, .int 0, .ref tr, .ref wk, .ref sd]))] sz (S := Unit) (fun v _ => v = some (.null)) (fun _ => [(h, .inr (4, [.ref fo, .int 0, .int 0, .ref mn, .ref df, .int 0, .ref bl, .int 0, .int 0, .int 1, .int 0, .ref tr, .ref wk, .ref sd]))]) (fun _ => []) := by
  refine cM_of (by decide) (Nat.le_of_ble_eq_true rfl) ?_
  intro p e s m below meth c ls hF hsz hP hK hD hE hZ hA hl
  obtain ⟨hx, hb, hr, hml, hown, hlocks, hnm, htb, hts⟩ := hF
  have hown : s.vm.findClass RX5 = some m.cls := hown
  have hl : lv_has ls 3 [(0, .ref h), (1, .int x)] := hl
  have hS : va_S (va_A [(h, .inr (4, [.ref fo, .int 0, .int 0, .ref mn, .ref df, .int 0, .ref bl, .int 0, .int 0, .int 1, .int 0, .ref tr, .ref wk, .ref sd]))] sz) s.heap s.heap [] := va_S.rf
  refine lv_aload_n hx hb dX5_closedAt_0 rfl (lv_at hl 0 rfl) ?_
  refine lv_iload_n hx hb dX5_closedAt_1 rfl (lv_at hl 1 rfl) ?_
  refine ck_run (wr := []) (va_runV (C := RX5) (As := [.int x]) (rest := []) ⟨hx, hb, hml, hown, hts⟩ (c_formulaAt l D s.heap.size h fo mn df bl tr wk sd x) (cw_V (n := 1) hts tw_2_23 tw_2_25 tw_s1 tw_1_1 tw_2_26 (by decide +kernel) ⟨by decide, by decide⟩) ⟨pre.blind, va_recv (q := (RX5, TX5, 14)) hK hP (ci := 4) (q0 := 0) rfl rfl, fun U hU hW => ⟨rfl, pre.of (wc := [(h, .inr (4, [.ref fo, .int 0, .int 0, .ref mn, .ref df, .int 0, .ref bl, .int 0, .int 0, .int 1, .int 0, .ref tr, .ref wk, .ref sd]))]) (tysc := []) (tk := []) hP hD hK hS hA hE hZ [0] (by decide) rfl rfl rfl U hU hW⟩⟩ rfl rfl hl.1 rfl (lv_room (Nat.le_of_ble_eq_true rfl)) dX5_closedAt_2 ⟨by decide, by decide⟩) hP hD hK hS hA [0] [] rfl rfl (by decide) (by decide) (fun v u H locs hw hP hD hK9 hS => ?_)
  have hw : v = some (.null) := hw
  subst hw
  have hP : va_P D vwCl [(h, .inr (4, [.ref fo, .int 0, .int 0, .ref mn, .ref df, .int 0, .ref bl, .int 0, .int 0, .int 1, .int 0, .ref tr, .ref wk, .ref sd]))] H := hP
  have hD : va_D _ [(h, .inr (4, [.ref fo, .int 0, .int 0, .ref mn, .ref df, .int 0, .ref bl, .int 0, .int 0, .int 1, .int 0, .ref tr, .ref wk, .ref sd]))] := hD
  refine W.eq (g2 := F0 m 5 ls [.null]) rfl ?_
  refine lv_astore_nN (lv' := [(2, .null), (0, .ref h), (1, .int x)]) hx hb dX5_closedAt_5 rfl hl (by decide) rfl (fun ls hl => ?_)
  refine lv_aload_nN hx hb dX5_closedAt_6 rfl (lv_at hl 0 rfl) ?_
  refine lv_ifnullN (tgt := 21) hx hb dX5_closedAt_7 (by decide) ?_
  refine lv_null hx hb dX5_closedAt_21 ?_
  exact ck_aret () hx hb hr (Or.inl ⟨_, rfl⟩) (Or.inl rfl) hlocks rfl (hP.sub [0] rfl) (hK.sub [] rfl) (hD.sub [0] (by decide) rfl) hS (by decide) (by decide) dX5_closedAt_22
set_option maxHeartbeats 4000000 in
set_option maxRecDepth 100000 in
theorem c_termAt (l : Launch) (D : va_G) (sz : Nat) (h fo mn df bl tr wk sd : Nat) (x : Int32) : cM l yX5_termAt (.code yX5_termAt cX5_termAt 3 (some (.object "ThesisDesk$Form"))) 14 410 0 0 [.ref h, .int x] D [] [(h, .inr (4, [.ref fo, .int 0, .int 0, .ref mn, .ref df, .int 0, .ref bl, .int 0, .int 0, .int 1, .int 0, .ref tr, .ref wk, .ref sd]))] sz (S := Unit) (fun v _ => v = some (.null)) (fun _ => [(h, .inr (4, [.ref fo, .int 0, .int 0, .ref mn, .ref df, .int 0, .ref bl, .int 0, .int 0, .int 1, .int 0, .ref tr, .ref wk, .ref sd]))]) (fun _ => []) := by
  refine cM_of (by decide) (Nat.le_of_ble_eq_true rfl) ?_
  intro p e s m below meth c ls hF hsz hP hK hD hE hZ hA hl
  obtain ⟨hx, hb, hr, hml, hown, hlocks, hnm, htb, hts⟩ := hF
  have hown : s.vm.findClass RX5 = some m.cls := hown
  have hl : lv_has ls 3 [(0, .ref h), (1, .int x)] := hl
  have hS : va_S (va_A [(h, .inr (4, [.ref fo, .int 0, .int 0, .ref mn, .ref df, .int 0, .ref bl, .int 0, .int 0, .int 1, .int 0, .ref tr, .ref wk, .ref sd]))] sz) s.heap s.heap [] := va_S.rf
  refine lv_aload_n hx hb dX5_termAt_0 rfl (lv_at hl 0 rfl) ?_
  refine lv_iload_n hx hb dX5_termAt_1 rfl (lv_at hl 1 rfl) ?_
  refine ck_run (wr := []) (va_runV (C := RX5) (As := [.int x]) (rest := []) ⟨hx, hb, hml, hown, hts⟩ (c_wholeAt l D s.heap.size h fo mn df bl tr wk sd x) (cw_V (n := 1) hts tw_2_27 tw_2_29 tw_s2 tw_1_1 tw_2_30 (by decide +kernel) ⟨by decide, by decide⟩) ⟨pre.blind, va_recv (q := (RX5, TX5, 14)) hK hP (ci := 4) (q0 := 0) rfl rfl, fun U hU hW => ⟨rfl, pre.of (wc := [(h, .inr (4, [.ref fo, .int 0, .int 0, .ref mn, .ref df, .int 0, .ref bl, .int 0, .int 0, .int 1, .int 0, .ref tr, .ref wk, .ref sd]))]) (tysc := []) (tk := []) hP hD hK hS hA hE hZ [0] (by decide) rfl rfl rfl U hU hW⟩⟩ rfl rfl hl.1 rfl (lv_room (Nat.le_of_ble_eq_true rfl)) dX5_termAt_2 ⟨by decide, by decide⟩) hP hD hK hS hA [0] [] rfl rfl (by decide) (by decide) (fun v u H locs hw hP hD hK9 hS => ?_)
  have hw : v = some (.null) := hw
  subst hw
  have hP : va_P D vwCl [(h, .inr (4, [.ref fo, .int 0, .int 0, .ref mn, .ref df, .int 0, .ref bl, .int 0, .int 0, .int 1, .int 0, .ref tr, .ref wk, .ref sd]))] H := hP
  have hD : va_D _ [(h, .inr (4, [.ref fo, .int 0, .int 0, .ref mn, .ref df, .int 0, .ref bl, .int 0, .int 0, .int 1, .int 0, .ref tr, .ref wk, .ref sd]))] := hD
  refine W.eq (g2 := F0 m 5 ls [.null]) rfl ?_
  refine lv_astore_nN (lv' := [(2, .null), (0, .ref h), (1, .int x)]) hx hb dX5_termAt_5 rfl hl (by decide) rfl (fun ls hl => ?_)
  refine lv_aload_nN hx hb dX5_termAt_6 rfl (lv_at hl 0 rfl) ?_
  refine lv_ifnullN (tgt := 21) hx hb dX5_termAt_7 (by decide) ?_
  refine lv_null hx hb dX5_termAt_21 ?_
  exact ck_aret () hx hb hr (Or.inl ⟨_, rfl⟩) (Or.inl rfl) hlocks rfl (hP.sub [0] rfl) (hK.sub [] rfl) (hD.sub [0] (by decide) rfl) hS (by decide) (by decide) dX5_termAt_22
set_option maxHeartbeats 4000000 in
set_option maxRecDepth 100000 in
theorem c_constantAt (l : Launch) (D : va_G) (sz : Nat) (h fo mn df bl tr wk sd : Nat) (x : Int32) : cM l yX5_constantAt (.code yX5_constantAt cX5_constantAt 3 (some .int)) 12 340 0 0 [.ref h, .int x] D [] [(h, .inr (4, [.ref fo, .int 0, .int 0, .ref mn, .ref df, .int 0, .ref bl, .int 0, .int 0, .int 1, .int 0, .ref tr, .ref wk, .ref sd]))] sz (S := Unit) (fun v _ => v = some (.int (-1))) (fun _ => [(h, .inr (4, [.ref fo, .int 0, .int 0, .ref mn, .ref df, .int 0, .ref bl, .int 0, .int 0, .int 1, .int 0, .ref tr, .ref wk, .ref sd]))]) (fun _ => []) := by
  refine cM_of (by decide) (Nat.le_of_ble_eq_true rfl) ?_
  intro p e s m below meth c ls hF hsz hP hK hD hE hZ hA hl
  obtain ⟨hx, hb, hr, hml, hown, hlocks, hnm, htb, hts⟩ := hF
  have hown : s.vm.findClass RX5 = some m.cls := hown
  have hl : lv_has ls 3 [(0, .ref h), (1, .int x)] := hl
  have hS : va_S (va_A [(h, .inr (4, [.ref fo, .int 0, .int 0, .ref mn, .ref df, .int 0, .ref bl, .int 0, .int 0, .int 1, .int 0, .ref tr, .ref wk, .ref sd]))] sz) s.heap s.heap [] := va_S.rf
  refine lv_aload_n hx hb dX5_constantAt_0 rfl (lv_at hl 0 rfl) ?_
  refine lv_iload_n hx hb dX5_constantAt_1 rfl (lv_at hl 1 rfl) ?_
  refine ck_run (wr := []) (va_runV (C := RX5) (As := [.int x]) (rest := []) ⟨hx, hb, hml, hown, hts⟩ (c_formAt l D s.heap.size h fo mn df bl tr wk sd x) (cw_V (n := 1) hts tw_2_31 tw_2_33 tw_s3 tw_1_1 tw_2_34 (by decide +kernel) ⟨by decide, by decide⟩) ⟨pre.blind, va_recv (q := (RX5, TX5, 14)) hK hP (ci := 4) (q0 := 0) rfl rfl, fun U hU hW => ⟨rfl, pre.of (wc := [(h, .inr (4, [.ref fo, .int 0, .int 0, .ref mn, .ref df, .int 0, .ref bl, .int 0, .int 0, .int 1, .int 0, .ref tr, .ref wk, .ref sd]))]) (tysc := []) (tk := []) hP hD hK hS hA hE hZ [0] (by decide) rfl rfl rfl U hU hW⟩⟩ rfl rfl hl.1 rfl (lv_room (Nat.le_of_ble_eq_true rfl)) dX5_constantAt_2 ⟨by decide, by decide⟩) hP hD hK hS hA [0] [] rfl rfl (by decide) (by decide) (fun v u H locs hw hP hD hK9 hS => ?_)
  have hw : v = some (.null) := hw
  subst hw
  have hP : va_P D vwCl [(h, .inr (4, [.ref fo, .int 0, .int 0, .ref mn, .ref df, .int 0, .ref bl, .int 0, .int 0, .int 1, .int 0, .ref tr, .ref wk, .ref sd]))] H := hP
  have hD : va_D _ [(h, .inr (4, [.ref fo, .int 0, .int 0, .ref mn, .ref df, .int 0, .ref bl, .int 0, .int 0, .int 1, .int 0, .ref tr, .ref wk, .ref sd]))] := hD
  refine W.eq (g2 := F0 m 5 ls [.null]) rfl ?_
  refine lv_astore_nN (lv' := [(2, .null), (0, .ref h), (1, .int x)]) hx hb dX5_constantAt_5 rfl hl (by decide) rfl (fun ls hl => ?_)
  refine lv_aload_nN hx hb dX5_constantAt_6 rfl (lv_at hl 0 rfl) ?_
  refine lv_ifnullN (tgt := 27) hx hb dX5_constantAt_7 (by decide) ?_
  refine lv_iconst (v := (-1)) hx hb dX5_constantAt_27 (by decide) ?_
  exact ck_iret () hx hb hr rfl hlocks rfl (hP.sub [0] rfl) (hK.sub [] rfl) (hD.sub [0] (by decide) rfl) hS (by decide) (by decide) dX5_constantAt_28
set_option maxHeartbeats 4000000 in
set_option maxRecDepth 100000 in
theorem c_openBlock (l : Launch) (D : va_G) (sz : Nat) (h fo mn df bl tr wk sd : Nat) : cM l yX5_openBlock (.code yX5_openBlock cX5_openBlock 1 (some (.object "ThesisDesk$Block"))) 10 270 0 0 [.ref h] D [] [(h, .inr (4, [.ref fo, .int 0, .int 0, .ref mn, .ref df, .int 0, .ref bl, .int 0, .int 0, .int 1, .int 0, .ref tr, .ref wk, .ref sd]))] sz (S := Unit) (fun v _ => v = some (.null)) (fun _ => [(h, .inr (4, [.ref fo, .int 0, .int 0, .ref mn, .ref df, .int 0, .ref bl, .int 0, .int 0, .int 1, .int 0, .ref tr, .ref wk, .ref sd]))]) (fun _ => []) := by
  refine cM_of (by decide) (Nat.le_of_ble_eq_true rfl) ?_
  intro p e s m below meth c ls hF hsz hP hK hD hE hZ hA hl
  obtain ⟨hx, hb, hr, hml, hown, hlocks, hnm, htb, hts⟩ := hF
  have hown : s.vm.findClass RX5 = some m.cls := hown
  have hl : lv_has ls 1 [(0, .ref h)] := hl
  have hS : va_S (va_A [(h, .inr (4, [.ref fo, .int 0, .int 0, .ref mn, .ref df, .int 0, .ref bl, .int 0, .int 0, .int 1, .int 0, .ref tr, .ref wk, .ref sd]))] sz) s.heap s.heap [] := va_S.rf
  refine lv_aload_n hx hb dX5_openBlock_0 rfl (lv_at hl 0 rfl) ?_
  refine va_get (ci := 4) (v := .int 0) (C := RX5) (T := TX5) (N := 14) hx hb hts inG_X5 hown hK hP 0 rfl rfl 7 (by decide) (hts _ tw_1_124) (fun _ h9 => h9) rfl dX5_openBlock_1 ?_
  refine lv_if_le (tgt := 30) hx hb dX5_openBlock_4 (by decide) (fun _ => ?_) (fun c9 => absurd (by decide) c9)
  refine lv_null hx hb dX5_openBlock_30 ?_
  exact ck_aret () hx hb hr (Or.inl ⟨_, rfl⟩) (Or.inl rfl) hlocks rfl (hP.sub [0] rfl) (hK.sub [] rfl) (hD.sub [0] (by decide) rfl) hS (by decide) (by decide) dX5_openBlock_31
