set_option maxHeartbeats 4000000 in
set_option maxRecDepth 100000 in
theorem c_noWait (l : Launch) (hl0 : l.stackTraces = false) (D : va_G) (sz : Nat) (d fa ma da ba wk sd tr : Nat) (fc cc pr bc nc lf mi : Int32) (cB : ClassId) (BA : Nat → Option Nat) (po : va_W) (BS : Nat → BC) (hB : bAll po BA BS) : cY l yX5_refuseWhileWaiting (.code yX5_refuseWhileWaiting cX5_refuseWhileWaiting 2 none) 20 620 1 6 [.ref d] D [(cB, .object RX0)] ([(d, .inr (4, [.ref fa, .int fc, .int cc, .ref ma, .ref da, .int pr, .ref ba, .int bc, .int nc, .int lf, .int mi, .ref tr, .ref wk, .ref sd])), (ba, .inl (cB, 40, .inr (.inr (.inr (.inr BA)))))] ++ po) sz (S := Unit) (fun v _ => v = none ∧ ¬ b_waits bc BA BS) (fun _ => ([(d, .inr (4, [.ref fa, .int fc, .int cc, .ref ma, .ref da, .int pr, .ref ba, .int bc, .int nc, .int lf, .int mi, .ref tr, .ref wk, .ref sd])), (ba, .inl (cB, 40, .inr (.inr (.inr (.inr BA)))))] ++ po)) (fun _ => [(cB, .object RX0)]) (T := Unit) (fun E _ => E = nISE ∧ b_waits bc BA BS) (fun _ => ([(d, .inr (4, [.ref fa, .int fc, .int cc, .ref ma, .ref da, .int pr, .ref ba, .int bc, .int nc, .int lf, .int mi, .ref tr, .ref wk, .ref sd])), (ba, .inl (cB, 40, .inr (.inr (.inr (.inr BA)))))] ++ po)) := by
  refine cY_of (by decide) (Nat.le_of_ble_eq_true rfl) ?_
  intro p e s m below meth c ls hF hsz hP hK hD hE hZ hA hl
  obtain ⟨hx, hb, hr, hml, hown, hlocks, hnm, htb, hts⟩ := hF
  have hown : s.vm.findClass RX5 = some m.cls := hown
  have hl : lv_has ls 2 [(0, .ref d)] := hl
  have hS : va_S (va_A ([(d, .inr (4, [.ref fa, .int fc, .int cc, .ref ma, .ref da, .int pr, .ref ba, .int bc, .int nc, .int lf, .int mi, .ref tr, .ref wk, .ref sd])), (ba, .inl (cB, 40, .inr (.inr (.inr (.inr BA)))))] ++ po) sz) s.heap s.heap [] := va_S.rf
  refine lv_aload_n hx hb dX5_refuseWhileWaiting_0 rfl (lv_at hl 0 rfl) ?_
  refine ck_runQ (wr := []) (va_runV (C := RX5) (As := []) (rest := []) ⟨hx, hb, hml, hown, hts⟩ (c_openB l D s.heap.size d fa ma da ba wk sd tr fc cc pr bc nc lf mi cB BA) (cw_V (n := 0) hts tw_2_237 tw_2_239 tw_s24 tw_1_1 tw_3_0 (by decide +kernel) ⟨by decide, by decide⟩) ⟨pre.blind, va_recv (q := (RX5, TX5, 14)) hK hP (ci := 4) (q0 := 0) rfl rfl, fun U hU hW => ⟨rfl, pre.of (wc := [(d, .inr (4, [.ref fa, .int fc, .int cc, .ref ma, .ref da, .int pr, .ref ba, .int bc, .int nc, .int lf, .int mi, .ref tr, .ref wk, .ref sd])), (ba, .inl (cB, 40, .inr (.inr (.inr (.inr BA)))))]) (tysc := [(cB, .object RX0)]) (tk := [0]) hP.left hD.left hK hS hA hE hZ [0, 1] (by decide) rfl rfl rfl U hU hW⟩⟩ rfl rfl hl.1 rfl (lv_room (Nat.le_of_ble_eq_true rfl)) dX5_refuseWhileWaiting_1 ⟨by decide, by decide⟩) hP hD hK hS hA [0, 1] [] rfl rfl (by decide) (by decide) (fun v u H locs hw hP hD hK9 hS => ?_)
  have hw : v = some (va_rf (q_openB bc BA)) := hw
  subst hw
  have hP : va_P D vwCl ([(d, .inr (4, [.ref fa, .int fc, .int cc, .ref ma, .ref da, .int pr, .ref ba, .int bc, .int nc, .int lf, .int mi, .ref tr, .ref wk, .ref sd])), (ba, .inl (cB, 40, .inr (.inr (.inr (.inr BA)))))] ++ po) H := hP
  have hD : va_D _ ([(d, .inr (4, [.ref fa, .int fc, .int cc, .ref ma, .ref da, .int pr, .ref ba, .int bc, .int nc, .int lf, .int mi, .ref tr, .ref wk, .ref sd])), (ba, .inl (cB, 40, .inr (.inr (.inr (.inr BA)))))] ++ po) := hD
  refine W.eq (g2 := F0 m 4 ls [va_rf (q_openB bc BA)]) rfl ?_
  obtain ⟨op_1, ho_1⟩ : ∃ x9 : Option Nat, q_openB bc BA = x9 := ⟨_, rfl⟩
  cases op_1 with
  | none =>
    refine W.eq (g2 := F0 m 4 ls [.null]) (by rw [ho_1] <;> rfl) ?_
    refine lv_astore_nN (lv' := [(1, .null), (0, .ref d)]) hx hb dX5_refuseWhileWaiting_4 rfl hl (by decide) rfl (fun ls hl => ?_)
    refine lv_aload_nN hx hb dX5_refuseWhileWaiting_5 rfl (lv_at hl 0 rfl) ?_
    refine lv_ifnullN (tgt := 27) hx hb dX5_refuseWhileWaiting_6 (by decide) ?_
    exact vx_ret (ck_vret () hx hb hr hlocks ⟨rfl, (fun g => not_isSome ho_1 g.1)⟩ (hP.part [0, 1] rfl) (hK.sub [0] rfl) (hD.part [0, 1] (by decide) rfl) hS (by decide) (by decide) dX5_refuseWhileWaiting_27)
  | some a_1 =>
    refine W.eq (g2 := F0 m 4 ls [.ref a_1]) (by rw [ho_1] <;> rfl) ?_
    obtain ⟨i_a_1, hb_a_1⟩ := bOpen hB ho_1
    refine lv_astore_n (lv' := [(1, .ref a_1), (0, .ref d)]) hx hb dX5_refuseWhileWaiting_4 rfl hl (by decide) rfl (fun ls hl => ?_)
    refine lv_aload_n hx hb dX5_refuseWhileWaiting_5 rfl (lv_at hl 0 rfl) ?_
    refine lv_ifnull hx hb dX5_refuseWhileWaiting_6 ?_
    refine lv_aload_n hx hb dX5_refuseWhileWaiting_9 rfl (lv_at hl 0 rfl) ?_
    refine va_getN (ci := 0) (v := .int ((bTop bc BS).2.2.1)) (C := RX0) (T := TX0) (N := 5) hx hb hts inG_X0 hown hK hP (i_a_1 + 2) hb_a_1 rfl 2 (by decide) (hE.w tn_1_38 rfl) (fun _ h9 => h9) rfl dX5_refuseWhileWaiting_10 ?_
    refine lv_if_eq (tgt := 27) hx hb dX5_refuseWhileWaiting_13 (by decide) (fun c_13 => ?_) (fun c_13 => ?_)
    · exact vx_ret (ck_vret () hx hb hr hlocks ⟨rfl, (fun g => g.2 c_13)⟩ (hP.part [0, 1] rfl) (hK.sub [0] rfl) (hD.part [0, 1] (by decide) rfl) hS (by decide) (by decide) dX5_refuseWhileWaiting_27)
    · exact ty_ISEw hx hb hl0 hown hlocks htb hE hZ hS (hl.1.trans hml.symm) tn_3_1 sx_297 dX5_refuseWhileWaiting_16 dX5_refuseWhileWaiting_19 dX5_refuseWhileWaiting_20 dX5_refuseWhileWaiting_23 dX5_refuseWhileWaiting_26 (by decide) (Nat.le_of_ble_eq_true rfl) (Nat.le_of_ble_eq_true rfl) (Nat.le_of_ble_eq_true rfl) () ⟨rfl, isSome_of ho_1, c_13⟩ (hP.part [0, 1] rfl) (hD.part [0, 1] (by decide) rfl) (by decide) (by decide)
set_option maxHeartbeats 4000000 in
set_option maxRecDepth 100000 in
theorem c_forStep (l : Launch) (hl0 : l.stackTraces = false) (D : va_G) (sz : Nat) (d fa ma da ba wk sd tr : Nat) (fc cc pr bc nc lf mi : Int32) (cB : ClassId) (BA : Nat → Option Nat) (po : va_W) (BS : Nat → BC) (hB : bAll po BA BS) : cY l yX5_blockForStep (.code yX5_blockForStep cX5_blockForStep 2 (some (.object "ThesisDesk$Block"))) 22 690 1 6 [.ref d] D [(cB, .object RX0)] ([(d, .inr (4, [.ref fa, .int fc, .int cc, .ref ma, .ref da, .int pr, .ref ba, .int bc, .int nc, .int lf, .int mi, .ref tr, .ref wk, .ref sd])), (ba, .inl (cB, 40, .inr (.inr (.inr (.inr BA)))))] ++ po) sz (S := Nat) (fun v u => v = some (.ref u) ∧ q_openB bc BA = some u ∧ b_step bc nc BA BS) (fun u => ([(d, .inr (4, [.ref fa, .int fc, .int cc, .ref ma, .ref da, .int pr, .ref ba, .int bc, .int nc, .int lf, .int mi, .ref tr, .ref wk, .ref sd])), (ba, .inl (cB, 40, .inr (.inr (.inr (.inr BA)))))] ++ po)) (fun u => [(cB, .object RX0)]) (T := Unit) (fun E _ => E = nISE ∧ ¬ b_step bc nc BA BS) (fun _ => ([(d, .inr (4, [.ref fa, .int fc, .int cc, .ref ma, .ref da, .int pr, .ref ba, .int bc, .int nc, .int lf, .int mi, .ref tr, .ref wk, .ref sd])), (ba, .inl (cB, 40, .inr (.inr (.inr (.inr BA)))))] ++ po)) := by
  refine cY_of (by decide) (Nat.le_of_ble_eq_true rfl) ?_
  intro p e s m below meth c ls hF hsz hP hK hD hE hZ hA hl
  obtain ⟨hx, hb, hr, hml, hown, hlocks, hnm, htb, hts⟩ := hF
  have hown : s.vm.findClass RX5 = some m.cls := hown
  have hl : lv_has ls 2 [(0, .ref d)] := hl
  have hS : va_S (va_A ([(d, .inr (4, [.ref fa, .int fc, .int cc, .ref ma, .ref da, .int pr, .ref ba, .int bc, .int nc, .int lf, .int mi, .ref tr, .ref wk, .ref sd])), (ba, .inl (cB, 40, .inr (.inr (.inr (.inr BA)))))] ++ po) sz) s.heap s.heap [] := va_S.rf
  refine lv_aload_n hx hb dX5_blockForStep_0 rfl (lv_at hl 0 rfl) ?_
  refine ck_runQ (wr := []) (va_runV (C := RX5) (As := []) (rest := []) ⟨hx, hb, hml, hown, hts⟩ (c_openB l D s.heap.size d fa ma da ba wk sd tr fc cc pr bc nc lf mi cB BA) (cw_V (n := 0) hts tw_2_237 tw_2_239 tw_s24 tw_1_1 tw_3_0 (by decide +kernel) ⟨by decide, by decide⟩) ⟨pre.blind, va_recv (q := (RX5, TX5, 14)) hK hP (ci := 4) (q0 := 0) rfl rfl, fun U hU hW => ⟨rfl, pre.of (wc := [(d, .inr (4, [.ref fa, .int fc, .int cc, .ref ma, .ref da, .int pr, .ref ba, .int bc, .int nc, .int lf, .int mi, .ref tr, .ref wk, .ref sd])), (ba, .inl (cB, 40, .inr (.inr (.inr (.inr BA)))))]) (tysc := [(cB, .object RX0)]) (tk := [0]) hP.left hD.left hK hS hA hE hZ [0, 1] (by decide) rfl rfl rfl U hU hW⟩⟩ rfl rfl hl.1 rfl (lv_room (Nat.le_of_ble_eq_true rfl)) dX5_blockForStep_1 ⟨by decide, by decide⟩) hP hD hK hS hA [0, 1] [] rfl rfl (by decide) (by decide) (fun v u H locs hw hP hD hK9 hS => ?_)
  have hw : v = some (va_rf (q_openB bc BA)) := hw
  subst hw
  have hP : va_P D vwCl ([(d, .inr (4, [.ref fa, .int fc, .int cc, .ref ma, .ref da, .int pr, .ref ba, .int bc, .int nc, .int lf, .int mi, .ref tr, .ref wk, .ref sd])), (ba, .inl (cB, 40, .inr (.inr (.inr (.inr BA)))))] ++ po) H := hP
  have hD : va_D _ ([(d, .inr (4, [.ref fa, .int fc, .int cc, .ref ma, .ref da, .int pr, .ref ba, .int bc, .int nc, .int lf, .int mi, .ref tr, .ref wk, .ref sd])), (ba, .inl (cB, 40, .inr (.inr (.inr (.inr BA)))))] ++ po) := hD
  refine W.eq (g2 := F0 m 4 ls [va_rf (q_openB bc BA)]) rfl ?_
  obtain ⟨op_1, ho_1⟩ : ∃ x9 : Option Nat, q_openB bc BA = x9 := ⟨_, rfl⟩
  cases op_1 with
  | none =>
    refine W.eq (g2 := F0 m 4 ls [.null]) (by rw [ho_1] <;> rfl) ?_
    refine lv_astore_nN (lv' := [(1, .null), (0, .ref d)]) hx hb dX5_blockForStep_4 rfl hl (by decide) rfl (fun ls hl => ?_)
    refine lv_aload_nN hx hb dX5_blockForStep_5 rfl (lv_at hl 0 rfl) ?_
    refine lv_ifnullN (tgt := 16) hx hb dX5_blockForStep_6 (by decide) ?_
    exact ty_ISEw hx hb hl0 hown hlocks htb hE hZ hS (hl.1.trans hml.symm) tn_3_29 sx_326 dX5_blockForStep_16 dX5_blockForStep_19 dX5_blockForStep_20 dX5_blockForStep_23 dX5_blockForStep_26 (by decide) (Nat.le_of_ble_eq_true rfl) (Nat.le_of_ble_eq_true rfl) (Nat.le_of_ble_eq_true rfl) () ⟨rfl, fun g => not_isSome ho_1 g.1⟩ (hP.part [0, 1] rfl) (hD.part [0, 1] (by decide) rfl) (by decide) (by decide)
  | some a_1 =>
    refine W.eq (g2 := F0 m 4 ls [.ref a_1]) (by rw [ho_1] <;> rfl) ?_
    obtain ⟨i_a_1, hb_a_1⟩ := bOpen hB ho_1
    refine lv_astore_n (lv' := [(1, .ref a_1), (0, .ref d)]) hx hb dX5_blockForStep_4 rfl hl (by decide) rfl (fun ls hl => ?_)
    refine lv_aload_n hx hb dX5_blockForStep_5 rfl (lv_at hl 0 rfl) ?_
    refine lv_ifnull hx hb dX5_blockForStep_6 ?_
    refine lv_aload_n hx hb dX5_blockForStep_9 rfl (lv_at hl 0 rfl) ?_
    refine va_getN (ci := 0) (v := .int ((bTop bc BS).2.2.1)) (C := RX0) (T := TX0) (N := 5) hx hb hts inG_X0 hown hK hP (i_a_1 + 2) hb_a_1 rfl 2 (by decide) (hE.w tn_1_38 rfl) (fun _ h9 => h9) rfl dX5_blockForStep_10 ?_
    refine lv_if_eq (tgt := 27) hx hb dX5_blockForStep_13 (by decide) (fun c_13 => ?_) (fun c_13 => ?_)
    · refine lv_aload_n hx hb dX5_blockForStep_27 rfl (lv_at hl 1 rfl) ?_
      have hP : va_P D vwCl ([(d, .inr (4, [.ref fa, .int fc, .int cc, .ref ma, .ref da, .int pr, .ref ba, .int bc, .int nc, .int lf, .int mi, .ref tr, .ref wk, .ref sd])), (ba, .inl (cB, 40, .inr (.inr (.inr (.inr BA)))))] ++ po) H := hP
      have hD : va_D _ ([(d, .inr (4, [.ref fa, .int fc, .int cc, .ref ma, .ref da, .int pr, .ref ba, .int bc, .int nc, .int lf, .int mi, .ref tr, .ref wk, .ref sd])), (ba, .inl (cB, 40, .inr (.inr (.inr (.inr BA)))))] ++ po) := hD
      refine cy_runP (wr := [(ba, .inl (cB, 40, .inr (.inr (.inr (.inr BA)))))]) (rx := fun _ => [(d, .inr (4, [.ref fa, .int fc, .int cc, .ref ma, .ref da, .int pr, .ref ba, .int bc, .int nc, .int lf, .int mi, .ref tr, .ref wk, .ref sd]))]) (pl1 := fun _ => po) (ry := fun _ => [(d, .inr (4, [.ref fa, .int fc, .int cc, .ref ma, .ref da, .int pr, .ref ba, .int bc, .int nc, .int lf, .int mi, .ref tr, .ref wk, .ref sd]))]) (pl2 := fun _ => po) (vx_runV (C := RX5) (As := []) (rest := []) ⟨hx, hb, hml, hown, hts⟩ (c_full l hl0 D H.size d fa ma da ba wk sd tr fc cc pr bc nc lf mi po) (cw_V (n := 0) hts tw_3_30 tw_3_32 tw_s27 tw_1_1 tw_3_33 (by decide +kernel) ⟨by decide, by decide⟩) ⟨pre.blind, va_recv (q := (RX5, TX5, 14)) hK hP (ci := 4) (q0 := 0) rfl rfl, fun U hU hW => ⟨rfl, pre.ofP (cx := [(d, .inr (4, [.ref fa, .int fc, .int cc, .ref ma, .ref da, .int pr, .ref ba, .int bc, .int nc, .int lf, .int mi, .ref tr, .ref wk, .ref sd]))]) (pl := po) (tysc := []) (tk := []) hP hD hK hS hA hE hZ [0] (by decide) rfl rfl U hU hW⟩⟩ rfl rfl hl.1 rfl (lv_room (Nat.le_of_ble_eq_true rfl)) dX5_blockForStep_28 ⟨by decide, by decide⟩) hP hD hK hS hA (fun _ => rfl) (fun _ => rfl) [0] [1] rfl rfl (by decide) (by decide) (fun E ce q9 u H locs hxE hP hD hS hce hcv hcl => ?_) (fun v u H locs hw hP hD hK9 hS => ?_)
      · have hxE : E = nISE ∧ ¬ nc < 1000 := hxE
        have hP : va_P D vwCl ([(ba, .inl (cB, 40, .inr (.inr (.inr (.inr BA))))), (d, .inr (4, [.ref fa, .int fc, .int cc, .ref ma, .ref da, .int pr, .ref ba, .int bc, .int nc, .int lf, .int mi, .ref tr, .ref wk, .ref sd]))] ++ po) H := hP
        have hD : va_D _ ([(ba, .inl (cB, 40, .inr (.inr (.inr (.inr BA))))), (d, .inr (4, [.ref fa, .int fc, .int cc, .ref ma, .ref da, .int pr, .ref ba, .int bc, .int nc, .int lf, .int mi, .ref tr, .ref wk, .ref sd]))] ++ po) := hD
        exact vx_out (by rw [htb]; exact fun _ h => nomatch h) hlocks hce hcv hcl (fun t ht hv => ⟨⟨(), ⟨hxE.1, fun g => hxE.2 g.2.2⟩, by rw [ht]; exact (hP.part [1, 0] rfl), (hD.part [1, 0] (by decide) rfl)⟩, hS.F ht⟩) hS.2.2 (by decide) (by decide)
      · have hw : v = none ∧ nc < 1000 := hw
        obtain ⟨rfl, hq_2⟩ := hw
        have hP : va_P D vwCl ([(ba, .inl (cB, 40, .inr (.inr (.inr (.inr BA))))), (d, .inr (4, [.ref fa, .int fc, .int cc, .ref ma, .ref da, .int pr, .ref ba, .int bc, .int nc, .int lf, .int mi, .ref tr, .ref wk, .ref sd]))] ++ po) H := hP
        have hD : va_D _ ([(ba, .inl (cB, 40, .inr (.inr (.inr (.inr BA))))), (d, .inr (4, [.ref fa, .int fc, .int cc, .ref ma, .ref da, .int pr, .ref ba, .int bc, .int nc, .int lf, .int mi, .ref tr, .ref wk, .ref sd]))] ++ po) := hD
        refine W.eq (g2 := F0 m 31 ls []) rfl ?_
        refine lv_aload_n hx hb dX5_blockForStep_31 rfl (lv_at hl 0 rfl) ?_
        exact vx_ret (ck_aret a_1 hx hb hr (Or.inl ⟨_, rfl⟩) (Or.inr ⟨_, rfl⟩) hlocks ⟨rfl, ⟨ho_1, isSome_of ho_1, c_13, hq_2⟩⟩ (hP.part [1, 0] rfl) (hK.sub [0] rfl) (hD.part [1, 0] (by decide) rfl) hS (by decide) (by decide) dX5_blockForStep_32)
    · exact ty_ISEw hx hb hl0 hown hlocks htb hE hZ hS (hl.1.trans hml.symm) tn_3_29 sx_326 dX5_blockForStep_16 dX5_blockForStep_19 dX5_blockForStep_20 dX5_blockForStep_23 dX5_blockForStep_26 (by decide) (Nat.le_of_ble_eq_true rfl) (Nat.le_of_ble_eq_true rfl) (Nat.le_of_ble_eq_true rfl) () ⟨rfl, fun g => c_13 g.2.1⟩ (hP.part [0, 1] rfl) (hD.part [0, 1] (by decide) rfl) (by decide) (by decide)
set_option maxHeartbeats 4000000 in
set_option maxRecDepth 100000 in
theorem c_waiting (l : Launch) (hl0 : l.stackTraces = false) (D : va_G) (sz : Nat) (d fa ma da ba wk sd tr : Nat) (fc cc pr bc nc lf mi : Int32) (cB : ClassId) (BA : Nat → Option Nat) (po : va_W) (BS : Nat → BC) (hB : bAll po BA BS) : cY l yX5_waitingBlock (.code yX5_waitingBlock cX5_waitingBlock 2 (some (.object "ThesisDesk$Block"))) 20 620 1 6 [.ref d] D [(cB, .object RX0)] ([(d, .inr (4, [.ref fa, .int fc, .int cc, .ref ma, .ref da, .int pr, .ref ba, .int bc, .int nc, .int lf, .int mi, .ref tr, .ref wk, .ref sd])), (ba, .inl (cB, 40, .inr (.inr (.inr (.inr BA)))))] ++ po) sz (S := Nat) (fun v u => v = some (.ref u) ∧ q_openB bc BA = some u ∧ b_waits bc BA BS) (fun u => ([(d, .inr (4, [.ref fa, .int fc, .int cc, .ref ma, .ref da, .int pr, .ref ba, .int bc, .int nc, .int lf, .int mi, .ref tr, .ref wk, .ref sd])), (ba, .inl (cB, 40, .inr (.inr (.inr (.inr BA)))))] ++ po)) (fun u => [(cB, .object RX0)]) (T := Unit) (fun E _ => E = nISE ∧ ¬ b_waits bc BA BS) (fun _ => ([(d, .inr (4, [.ref fa, .int fc, .int cc, .ref ma, .ref da, .int pr, .ref ba, .int bc, .int nc, .int lf, .int mi, .ref tr, .ref wk, .ref sd])), (ba, .inl (cB, 40, .inr (.inr (.inr (.inr BA)))))] ++ po)) := by
  refine cY_of (by decide) (Nat.le_of_ble_eq_true rfl) ?_
  intro p e s m below meth c ls hF hsz hP hK hD hE hZ hA hl
  obtain ⟨hx, hb, hr, hml, hown, hlocks, hnm, htb, hts⟩ := hF
  have hown : s.vm.findClass RX5 = some m.cls := hown
  have hl : lv_has ls 2 [(0, .ref d)] := hl
  have hS : va_S (va_A ([(d, .inr (4, [.ref fa, .int fc, .int cc, .ref ma, .ref da, .int pr, .ref ba, .int bc, .int nc, .int lf, .int mi, .ref tr, .ref wk, .ref sd])), (ba, .inl (cB, 40, .inr (.inr (.inr (.inr BA)))))] ++ po) sz) s.heap s.heap [] := va_S.rf
  refine lv_aload_n hx hb dX5_waitingBlock_0 rfl (lv_at hl 0 rfl) ?_
  refine ck_runQ (wr := []) (va_runV (C := RX5) (As := []) (rest := []) ⟨hx, hb, hml, hown, hts⟩ (c_openB l D s.heap.size d fa ma da ba wk sd tr fc cc pr bc nc lf mi cB BA) (cw_V (n := 0) hts tw_2_237 tw_2_239 tw_s24 tw_1_1 tw_3_0 (by decide +kernel) ⟨by decide, by decide⟩) ⟨pre.blind, va_recv (q := (RX5, TX5, 14)) hK hP (ci := 4) (q0 := 0) rfl rfl, fun U hU hW => ⟨rfl, pre.of (wc := [(d, .inr (4, [.ref fa, .int fc, .int cc, .ref ma, .ref da, .int pr, .ref ba, .int bc, .int nc, .int lf, .int mi, .ref tr, .ref wk, .ref sd])), (ba, .inl (cB, 40, .inr (.inr (.inr (.inr BA)))))]) (tysc := [(cB, .object RX0)]) (tk := [0]) hP.left hD.left hK hS hA hE hZ [0, 1] (by decide) rfl rfl rfl U hU hW⟩⟩ rfl rfl hl.1 rfl (lv_room (Nat.le_of_ble_eq_true rfl)) dX5_waitingBlock_1 ⟨by decide, by decide⟩) hP hD hK hS hA [0, 1] [] rfl rfl (by decide) (by decide) (fun v u H locs hw hP hD hK9 hS => ?_)
  have hw : v = some (va_rf (q_openB bc BA)) := hw
  subst hw
  have hP : va_P D vwCl ([(d, .inr (4, [.ref fa, .int fc, .int cc, .ref ma, .ref da, .int pr, .ref ba, .int bc, .int nc, .int lf, .int mi, .ref tr, .ref wk, .ref sd])), (ba, .inl (cB, 40, .inr (.inr (.inr (.inr BA)))))] ++ po) H := hP
  have hD : va_D _ ([(d, .inr (4, [.ref fa, .int fc, .int cc, .ref ma, .ref da, .int pr, .ref ba, .int bc, .int nc, .int lf, .int mi, .ref tr, .ref wk, .ref sd])), (ba, .inl (cB, 40, .inr (.inr (.inr (.inr BA)))))] ++ po) := hD
  refine W.eq (g2 := F0 m 4 ls [va_rf (q_openB bc BA)]) rfl ?_
  obtain ⟨op_1, ho_1⟩ : ∃ x9 : Option Nat, q_openB bc BA = x9 := ⟨_, rfl⟩
  cases op_1 with
  | none =>
    refine W.eq (g2 := F0 m 4 ls [.null]) (by rw [ho_1] <;> rfl) ?_
    refine lv_astore_nN (lv' := [(1, .null), (0, .ref d)]) hx hb dX5_waitingBlock_4 rfl hl (by decide) rfl (fun ls hl => ?_)
    refine lv_aload_nN hx hb dX5_waitingBlock_5 rfl (lv_at hl 0 rfl) ?_
    refine lv_ifnullN (tgt := 16) hx hb dX5_waitingBlock_6 (by decide) ?_
    exact ty_ISEw hx hb hl0 hown hlocks htb hE hZ hS (hl.1.trans hml.symm) tn_3_166 sx_299 dX5_waitingBlock_16 dX5_waitingBlock_19 dX5_waitingBlock_20 dX5_waitingBlock_23 dX5_waitingBlock_26 (by decide) (Nat.le_of_ble_eq_true rfl) (Nat.le_of_ble_eq_true rfl) (Nat.le_of_ble_eq_true rfl) () ⟨rfl, fun g => not_isSome ho_1 g.1⟩ (hP.part [0, 1] rfl) (hD.part [0, 1] (by decide) rfl) (by decide) (by decide)
  | some a_1 =>
    refine W.eq (g2 := F0 m 4 ls [.ref a_1]) (by rw [ho_1] <;> rfl) ?_
    obtain ⟨i_a_1, hb_a_1⟩ := bOpen hB ho_1
    refine lv_astore_n (lv' := [(1, .ref a_1), (0, .ref d)]) hx hb dX5_waitingBlock_4 rfl hl (by decide) rfl (fun ls hl => ?_)
    refine lv_aload_n hx hb dX5_waitingBlock_5 rfl (lv_at hl 0 rfl) ?_
    refine lv_ifnull hx hb dX5_waitingBlock_6 ?_
    refine lv_aload_n hx hb dX5_waitingBlock_9 rfl (lv_at hl 0 rfl) ?_
    refine va_getN (ci := 0) (v := .int ((bTop bc BS).2.2.1)) (C := RX0) (T := TX0) (N := 5) hx hb hts inG_X0 hown hK hP (i_a_1 + 2) hb_a_1 rfl 2 (by decide) (hE.w tn_1_38 rfl) (fun _ h9 => h9) rfl dX5_waitingBlock_10 ?_
    refine lv_if_ne (tgt := 27) hx hb dX5_waitingBlock_13 (by decide) (fun c_13 => ?_) (fun c_13 => ?_)
    · refine lv_aload_n hx hb dX5_waitingBlock_27 rfl (lv_at hl 0 rfl) ?_
      exact vx_ret (ck_aret a_1 hx hb hr (Or.inl ⟨_, rfl⟩) (Or.inr ⟨_, rfl⟩) hlocks ⟨rfl, ⟨ho_1, isSome_of ho_1, c_13⟩⟩ (hP.part [0, 1] rfl) (hK.sub [0] rfl) (hD.part [0, 1] (by decide) rfl) hS (by decide) (by decide) dX5_waitingBlock_28)
    · exact ty_ISEw hx hb hl0 hown hlocks htb hE hZ hS (hl.1.trans hml.symm) tn_3_166 sx_299 dX5_waitingBlock_16 dX5_waitingBlock_19 dX5_waitingBlock_20 dX5_waitingBlock_23 dX5_waitingBlock_26 (by decide) (Nat.le_of_ble_eq_true rfl) (Nat.le_of_ble_eq_true rfl) (Nat.le_of_ble_eq_true rfl) () ⟨rfl, fun g => g.2 c_13⟩ (hP.part [0, 1] rfl) (hD.part [0, 1] (by decide) rfl) (by decide) (by decide)
