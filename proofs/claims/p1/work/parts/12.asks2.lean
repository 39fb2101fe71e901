set_option maxHeartbeats 4000000 in
set_option maxRecDepth 100000 in
theorem c_isTN1 (l : Launch) (D : va_G) (sz : Nat) (h fo mn df bl tr wk sd : Nat) (x : Int32) : cM l yX5_isTermOrNone (.code yX5_isTermOrNone cX5_isTermOrNone 3 (some .boolean)) 16 480 0 0 [.ref h, .int x, .int 1] D [] [(h, .inr (4, [.ref fo, .int 0, .int 0, .ref mn, .ref df, .int 0, .ref bl, .int 0, .int 0, .int 1, .int 0, .ref tr, .ref wk, .ref sd]))] sz (S := Unit) (fun v _ => v = some (.int 0)) (fun _ => [(h, .inr (4, [.ref fo, .int 0, .int 0, .ref mn, .ref df, .int 0, .ref bl, .int 0, .int 0, .int 1, .int 0, .ref tr, .ref wk, .ref sd]))]) (fun _ => []) := by
  refine cM_of (by decide) (Nat.le_of_ble_eq_true rfl) ?_
  intro p e s m below meth c ls hF hsz hP hK hD hE hZ hA hl
  obtain ⟨hx, hb, hr, hml, hown, hlocks, hnm, htb, hts⟩ := hF
  have hown : s.vm.findClass RX5 = some m.cls := hown
  have hl : lv_has ls 3 [(0, .ref h), (1, .int x), (2, .int 1)] := hl
  have hS : va_S (va_A [(h, .inr (4, [.ref fo, .int 0, .int 0, .ref mn, .ref df, .int 0, .ref bl, .int 0, .int 0, .int 1, .int 0, .ref tr, .ref wk, .ref sd]))] sz) s.heap s.heap [] := va_S.rf
  refine lv_iload_n hx hb dX5_isTermOrNone_0 rfl (lv_at hl 2 rfl) ?_
  refine lv_if_eq (tgt := 20) hx hb dX5_isTermOrNone_1 (by decide) (fun c9 => absurd c9 (by decide)) (fun _ => ?_)
  refine lv_aload_n hx hb dX5_isTermOrNone_4 rfl (lv_at hl 0 rfl) ?_
  refine lv_iload_n hx hb dX5_isTermOrNone_5 rfl (lv_at hl 1 rfl) ?_
  refine ck_run (wr := []) (va_runV (C := RX5) (As := [.int x]) (rest := []) ⟨hx, hb, hml, hown, hts⟩ (c_termAt l D s.heap.size h fo mn df bl tr wk sd x) (cw_V (n := 1) hts tw_2_96 tw_2_98 tw_s8 tw_1_1 tw_2_99 (by decide +kernel) ⟨by decide, by decide⟩) ⟨pre.blind, va_recv (q := (RX5, TX5, 14)) hK hP (ci := 4) (q0 := 0) rfl rfl, fun U hU hW => ⟨rfl, pre.of (wc := [(h, .inr (4, [.ref fo, .int 0, .int 0, .ref mn, .ref df, .int 0, .ref bl, .int 0, .int 0, .int 1, .int 0, .ref tr, .ref wk, .ref sd]))]) (tysc := []) (tk := []) hP hD hK hS hA hE hZ [0] (by decide) rfl rfl rfl U hU hW⟩⟩ rfl rfl hl.1 rfl (lv_room (Nat.le_of_ble_eq_true rfl)) dX5_isTermOrNone_6 ⟨by decide, by decide⟩) hP hD hK hS hA [0] [] rfl rfl (by decide) (by decide) (fun v u H locs hw hP hD hK9 hS => ?_)
  have hw : v = some (.null) := hw
  subst hw
  have hP : va_P D vwCl [(h, .inr (4, [.ref fo, .int 0, .int 0, .ref mn, .ref df, .int 0, .ref bl, .int 0, .int 0, .int 1, .int 0, .ref tr, .ref wk, .ref sd]))] H := hP
  have hD : va_D _ [(h, .inr (4, [.ref fo, .int 0, .int 0, .ref mn, .ref df, .int 0, .ref bl, .int 0, .int 0, .int 1, .int 0, .ref tr, .ref wk, .ref sd]))] := hD
  refine W.eq (g2 := F0 m 9 ls [.null]) rfl ?_
  refine lv_ifnullN (tgt := 16) hx hb dX5_isTermOrNone_9 (by decide) ?_
  refine lv_iconst (v := 0) hx hb dX5_isTermOrNone_16 (by decide) ?_
  refine lv_goto (tgt := 30) hx hb dX5_isTermOrNone_17 (by decide) ?_
  exact ck_iret () hx hb hr rfl hlocks rfl (hP.sub [0] rfl) (hK.sub [] rfl) (hD.sub [0] (by decide) rfl) hS (by decide) (by decide) dX5_isTermOrNone_30
set_option maxHeartbeats 4000000 in
set_option maxRecDepth 100000 in
theorem c_isFN1 (l : Launch) (D : va_G) (sz : Nat) (h fo mn df bl tr wk sd : Nat) (x : Int32) : cM l yX5_isFormulaOrNone (.code yX5_isFormulaOrNone cX5_isFormulaOrNone 3 (some .boolean)) 16 480 0 0 [.ref h, .int x, .int 1] D [] [(h, .inr (4, [.ref fo, .int 0, .int 0, .ref mn, .ref df, .int 0, .ref bl, .int 0, .int 0, .int 1, .int 0, .ref tr, .ref wk, .ref sd]))] sz (S := Unit) (fun v _ => v = some (.int 0)) (fun _ => [(h, .inr (4, [.ref fo, .int 0, .int 0, .ref mn, .ref df, .int 0, .ref bl, .int 0, .int 0, .int 1, .int 0, .ref tr, .ref wk, .ref sd]))]) (fun _ => []) := by
  refine cM_of (by decide) (Nat.le_of_ble_eq_true rfl) ?_
  intro p e s m below meth c ls hF hsz hP hK hD hE hZ hA hl
  obtain ⟨hx, hb, hr, hml, hown, hlocks, hnm, htb, hts⟩ := hF
  have hown : s.vm.findClass RX5 = some m.cls := hown
  have hl : lv_has ls 3 [(0, .ref h), (1, .int x), (2, .int 1)] := hl
  have hS : va_S (va_A [(h, .inr (4, [.ref fo, .int 0, .int 0, .ref mn, .ref df, .int 0, .ref bl, .int 0, .int 0, .int 1, .int 0, .ref tr, .ref wk, .ref sd]))] sz) s.heap s.heap [] := va_S.rf
  refine lv_iload_n hx hb dX5_isFormulaOrNone_0 rfl (lv_at hl 2 rfl) ?_
  refine lv_if_eq (tgt := 20) hx hb dX5_isFormulaOrNone_1 (by decide) (fun c9 => absurd c9 (by decide)) (fun _ => ?_)
  refine lv_aload_n hx hb dX5_isFormulaOrNone_4 rfl (lv_at hl 0 rfl) ?_
  refine lv_iload_n hx hb dX5_isFormulaOrNone_5 rfl (lv_at hl 1 rfl) ?_
  refine ck_run (wr := []) (va_runV (C := RX5) (As := [.int x]) (rest := []) ⟨hx, hb, hml, hown, hts⟩ (c_formulaAt l D s.heap.size h fo mn df bl tr wk sd x) (cw_V (n := 1) hts tw_2_23 tw_2_25 tw_s1 tw_1_1 tw_2_26 (by decide +kernel) ⟨by decide, by decide⟩) ⟨pre.blind, va_recv (q := (RX5, TX5, 14)) hK hP (ci := 4) (q0 := 0) rfl rfl, fun U hU hW => ⟨rfl, pre.of (wc := [(h, .inr (4, [.ref fo, .int 0, .int 0, .ref mn, .ref df, .int 0, .ref bl, .int 0, .int 0, .int 1, .int 0, .ref tr, .ref wk, .ref sd]))]) (tysc := []) (tk := []) hP hD hK hS hA hE hZ [0] (by decide) rfl rfl rfl U hU hW⟩⟩ rfl rfl hl.1 rfl (lv_room (Nat.le_of_ble_eq_true rfl)) dX5_isFormulaOrNone_6 ⟨by decide, by decide⟩) hP hD hK hS hA [0] [] rfl rfl (by decide) (by decide) (fun v u H locs hw hP hD hK9 hS => ?_)
  have hw : v = some (.null) := hw
  subst hw
  have hP : va_P D vwCl [(h, .inr (4, [.ref fo, .int 0, .int 0, .ref mn, .ref df, .int 0, .ref bl, .int 0, .int 0, .int 1, .int 0, .ref tr, .ref wk, .ref sd]))] H := hP
  have hD : va_D _ [(h, .inr (4, [.ref fo, .int 0, .int 0, .ref mn, .ref df, .int 0, .ref bl, .int 0, .int 0, .int 1, .int 0, .ref tr, .ref wk, .ref sd]))] := hD
  refine W.eq (g2 := F0 m 9 ls [.null]) rfl ?_
  refine lv_ifnullN (tgt := 16) hx hb dX5_isFormulaOrNone_9 (by decide) ?_
  refine lv_iconst (v := 0) hx hb dX5_isFormulaOrNone_16 (by decide) ?_
  refine lv_goto (tgt := 30) hx hb dX5_isFormulaOrNone_17 (by decide) ?_
  exact ck_iret () hx hb hr rfl hlocks rfl (hP.sub [0] rfl) (hK.sub [] rfl) (hD.sub [0] (by decide) rfl) hS (by decide) (by decide) dX5_isFormulaOrNone_30
set_option maxHeartbeats 4000000 in
set_option maxRecDepth 100000 in
theorem c_isFN0y (l : Launch) (D : va_G) (sz : Nat) (h fo mn df bl tr wk sd : Nat) : cM l yX5_isFormulaOrNone (.code yX5_isFormulaOrNone cX5_isFormulaOrNone 3 (some .boolean)) 16 480 0 0 [.ref h, .int (-1), .int 0] D [] [(h, .inr (4, [.ref fo, .int 0, .int 0, .ref mn, .ref df, .int 0, .ref bl, .int 0, .int 0, .int 1, .int 0, .ref tr, .ref wk, .ref sd]))] sz (S := Unit) (fun v _ => v = some (.int 1)) (fun _ => [(h, .inr (4, [.ref fo, .int 0, .int 0, .ref mn, .ref df, .int 0, .ref bl, .int 0, .int 0, .int 1, .int 0, .ref tr, .ref wk, .ref sd]))]) (fun _ => []) := by
  refine cM_of (by decide) (Nat.le_of_ble_eq_true rfl) ?_
  intro p e s m below meth c ls hF hsz hP hK hD hE hZ hA hl
  obtain ⟨hx, hb, hr, hml, hown, hlocks, hnm, htb, hts⟩ := hF
  have hown : s.vm.findClass RX5 = some m.cls := hown
  have hl : lv_has ls 3 [(0, .ref h), (1, .int (-1)), (2, .int 0)] := hl
  have hS : va_S (va_A [(h, .inr (4, [.ref fo, .int 0, .int 0, .ref mn, .ref df, .int 0, .ref bl, .int 0, .int 0, .int 1, .int 0, .ref tr, .ref wk, .ref sd]))] sz) s.heap s.heap [] := va_S.rf
  refine lv_iload_n hx hb dX5_isFormulaOrNone_0 rfl (lv_at hl 2 rfl) ?_
  refine lv_if_eq (tgt := 20) hx hb dX5_isFormulaOrNone_1 (by decide) (fun _ => ?_) (fun c9 => absurd (by decide) c9)
  refine lv_iload_n hx hb dX5_isFormulaOrNone_20 rfl (lv_at hl 1 rfl) ?_
  refine lv_iconst (v := (-1)) hx hb dX5_isFormulaOrNone_21 (by decide) ?_
  refine lv_icmp_ne (tgt := 29) hx hb dX5_isFormulaOrNone_22 (by decide) (fun c9 => absurd (by decide) c9) (fun _ => ?_)
  refine lv_iconst (v := 1) hx hb dX5_isFormulaOrNone_25 (by decide) ?_
  refine lv_goto (tgt := 30) hx hb dX5_isFormulaOrNone_26 (by decide) ?_
  exact ck_iret () hx hb hr rfl hlocks rfl (hP.sub [0] rfl) (hK.sub [] rfl) (hD.sub [0] (by decide) rfl) hS (by decide) (by decide) dX5_isFormulaOrNone_30
set_option maxHeartbeats 4000000 in
set_option maxRecDepth 100000 in
theorem c_isFN0n (l : Launch) (D : va_G) (sz : Nat) (h fo mn df bl tr wk sd : Nat) (x : Int32) (hn : ¬ x = (-1)) : cM l yX5_isFormulaOrNone (.code yX5_isFormulaOrNone cX5_isFormulaOrNone 3 (some .boolean)) 16 480 0 0 [.ref h, .int x, .int 0] D [] [(h, .inr (4, [.ref fo, .int 0, .int 0, .ref mn, .ref df, .int 0, .ref bl, .int 0, .int 0, .int 1, .int 0, .ref tr, .ref wk, .ref sd]))] sz (S := Unit) (fun v _ => v = some (.int 0)) (fun _ => [(h, .inr (4, [.ref fo, .int 0, .int 0, .ref mn, .ref df, .int 0, .ref bl, .int 0, .int 0, .int 1, .int 0, .ref tr, .ref wk, .ref sd]))]) (fun _ => []) := by
  refine cM_of (by decide) (Nat.le_of_ble_eq_true rfl) ?_
  intro p e s m below meth c ls hF hsz hP hK hD hE hZ hA hl
  obtain ⟨hx, hb, hr, hml, hown, hlocks, hnm, htb, hts⟩ := hF
  have hown : s.vm.findClass RX5 = some m.cls := hown
  have hl : lv_has ls 3 [(0, .ref h), (1, .int x), (2, .int 0)] := hl
  have hS : va_S (va_A [(h, .inr (4, [.ref fo, .int 0, .int 0, .ref mn, .ref df, .int 0, .ref bl, .int 0, .int 0, .int 1, .int 0, .ref tr, .ref wk, .ref sd]))] sz) s.heap s.heap [] := va_S.rf
  refine lv_iload_n hx hb dX5_isFormulaOrNone_0 rfl (lv_at hl 2 rfl) ?_
  refine lv_if_eq (tgt := 20) hx hb dX5_isFormulaOrNone_1 (by decide) (fun _ => ?_) (fun c9 => absurd (by decide) c9)
  refine lv_iload_n hx hb dX5_isFormulaOrNone_20 rfl (lv_at hl 1 rfl) ?_
  refine lv_iconst (v := (-1)) hx hb dX5_isFormulaOrNone_21 (by decide) ?_
  refine lv_icmp_ne (tgt := 29) hx hb dX5_isFormulaOrNone_22 (by decide) (fun _ => ?_) (fun c9 => absurd c9 hn)
  refine lv_iconst (v := 0) hx hb dX5_isFormulaOrNone_29 (by decide) ?_
  exact ck_iret () hx hb hr rfl hlocks rfl (hP.sub [0] rfl) (hK.sub [] rfl) (hD.sub [0] (by decide) rfl) hS (by decide) (by decide) dX5_isFormulaOrNone_30
