set_option maxHeartbeats 4000000 in
set_option maxRecDepth 100000 in
theorem c_openD (l : Launch) (D : va_G) (sz : Nat) (d fa ma da ba wk sd tr : Nat) (fc cc pr bc nc lf mi : Int32) (cF : ClassId) (DA : Nat → Option Nat) (wkc : Nat) (cR : ClassId) (f : Nat → Int32) (n z : Int32) (po : va_W) (DS : Nat → FR) (hDA : dAll cR po pr DA DS) (hn : r_ok n) : cM l yX5_openDefinition (.code yX5_openDefinition cX5_openDefinition 2 (some .boolean)) 20 620 0 0 [.ref d] D [(cR, .int), (cF, .object RX2)] ([(d, .inr (4, [.ref fa, .int fc, .int cc, .ref ma, .ref da, .int pr, .ref ba, .int bc, .int nc, .int lf, .int mi, .ref tr, .ref wk, .ref sd])), (da, .inl (cF, 30, .inr (.inr (.inr (.inr DA))))), (wk, .inr (3, [.ref wkc, .int n, .int z])), (wkc, .inl (cR, 512, .inl f))] ++ po) sz (S := (Nat → Int32) × Int32 × Int32) (fun v u => v = some (.int (d_had (o_def (k_pred (r_codeAt (r_place f) f n)) pr DA))) ∧ o_row (k_pred (r_codeAt (r_place f) f n)) pr DA DS f n z = (u.1, u.2.1, u.2.2)) (fun u => ([(d, .inr (4, [.ref fa, .int fc, .int cc, .ref ma, .ref da, .int pr, .ref ba, .int bc, .int nc, .int lf, .int mi, .ref tr, .ref wk, .ref sd])), (da, .inl (cF, 30, .inr (.inr (.inr (.inr DA))))), (wk, .inr (3, [.ref wkc, .int u.2.1, .int u.2.2])), (wkc, .inl (cR, 512, .inl u.1))] ++ po)) (fun u => [(cR, .int), (cF, .object RX2)]) := by
  refine cM_of (by decide) (Nat.le_of_ble_eq_true rfl) ?_
  intro p e s m below meth c ls hF hsz hP hK hD hE hZ hA hl
  obtain ⟨hx, hb, hr, hml, hown, hlocks, hnm, htb, hts⟩ := hF
  have hown : s.vm.findClass RX5 = some m.cls := hown
  have hl : lv_has ls 2 [(0, .ref d)] := hl
  have hS : va_S (va_A ([(d, .inr (4, [.ref fa, .int fc, .int cc, .ref ma, .ref da, .int pr, .ref ba, .int bc, .int nc, .int lf, .int mi, .ref tr, .ref wk, .ref sd])), (da, .inl (cF, 30, .inr (.inr (.inr (.inr DA))))), (wk, .inr (3, [.ref wkc, .int n, .int z])), (wkc, .inl (cR, 512, .inl f))] ++ po) sz) s.heap s.heap [] := va_S.rf
  refine lv_aload_n hx hb dX5_openDefinition_0 rfl (lv_at hl 0 rfl) ?_
  refine va_get (ci := 4) (v := .ref wk) (C := RX5) (T := TX5) (N := 14) hx hb hts inG_X5 hown hK hP 0 rfl rfl 12 (by decide) (hts _ tw_1_129) (fun _ h9 => h9) rfl dX5_openDefinition_1 ?_
  refine ck_runQ (wr := [(d, .inr (4, [.ref fa, .int fc, .int cc, .ref ma, .ref da, .int pr, .ref ba, .int bc, .int nc, .int lf, .int mi, .ref tr, .ref wk, .ref sd])), (da, .inl (cF, 30, .inr (.inr (.inr (.inr DA)))))]) (va_runV (C := RX4) (As := []) (rest := []) ⟨hx, hb, hml, hown, hts⟩ (c_toOpen l D s.heap.size wk wkc cR f n z) (cw_V (n := 0) hts tw_3_94 tw_3_95 tw_3_96 tw_1_3 tw_3_97 (by decide +kernel) ⟨by decide, by decide⟩) ⟨pre.blind, va_recv (q := (RX4, TX4, 3)) hK hP (ci := 3) (q0 := 2) rfl rfl, fun U hU hW => ⟨rfl, pre.of (wc := [(wk, .inr (3, [.ref wkc, .int n, .int z])), (wkc, .inl (cR, 512, .inl f))]) (tysc := [(cR, .int)]) (tk := [0]) hP.left hD.left hK hS hA hE hZ [2, 3] (by decide) rfl rfl rfl U hU hW⟩⟩ rfl rfl hl.1 rfl (lv_room (Nat.le_of_ble_eq_true rfl)) dX5_openDefinition_4 ⟨by decide, by decide⟩) hP hD hK hS hA [2, 3] [0, 1] rfl rfl (by decide) (by decide) (fun v u H locs hw hP hD hK9 hS => ?_)
  have hw : v = some (.int (k_pred (r_codeAt (r_place f) f n))) := hw
  subst hw
  have hP : va_P D vwCl ([(d, .inr (4, [.ref fa, .int fc, .int cc, .ref ma, .ref da, .int pr, .ref ba, .int bc, .int nc, .int lf, .int mi, .ref tr, .ref wk, .ref sd])), (da, .inl (cF, 30, .inr (.inr (.inr (.inr DA))))), (wk, .inr (3, [.ref wkc, .int n, .int z])), (wkc, .inl (cR, 512, .inl f))] ++ po) H := hP
  have hD : va_D _ ([(d, .inr (4, [.ref fa, .int fc, .int cc, .ref ma, .ref da, .int pr, .ref ba, .int bc, .int nc, .int lf, .int mi, .ref tr, .ref wk, .ref sd])), (da, .inl (cF, 30, .inr (.inr (.inr (.inr DA))))), (wk, .inr (3, [.ref wkc, .int n, .int z])), (wkc, .inl (cR, 512, .inl f))] ++ po) := hD
  refine W.eq (g2 := F0 m 7 ls [.int (k_pred (r_codeAt (r_place f) f n))]) rfl ?_
  refine lv_istore_n (lv' := [(1, .int (k_pred (r_codeAt (r_place f) f n))), (0, .ref d)]) hx hb dX5_openDefinition_7 rfl hl (by decide) rfl (fun ls hl => ?_)
  refine lv_aload_n hx hb dX5_openDefinition_8 rfl (lv_at hl 1 rfl) ?_
  refine lv_iload_n hx hb dX5_openDefinition_9 rfl (lv_at hl 0 rfl) ?_
  refine ck_runQ (wr := [(da, .inl (cF, 30, .inr (.inr (.inr (.inr DA))))), (wk, .inr (3, [.ref wkc, .int n, .int z])), (wkc, .inl (cR, 512, .inl f))]) (va_runV (C := RX5) (As := [.int (k_pred (r_codeAt (r_place f) f n))]) (rest := []) ⟨hx, hb, hml, hown, hts⟩ (c_isPred l D H.size d fa ma da ba wk sd tr fc cc pr bc nc lf mi (k_pred (r_codeAt (r_place f) f n))) (cw_V (n := 1) hts tw_2_43 tw_2_45 tw_s4 tw_1_1 tw_2_46 (by decide +kernel) ⟨by decide, by decide⟩) ⟨pre.blind, va_recv (q := (RX5, TX5, 14)) hK hP (ci := 4) (q0 := 0) rfl rfl, fun U hU hW => ⟨rfl, pre.of (wc := [(d, .inr (4, [.ref fa, .int fc, .int cc, .ref ma, .ref da, .int pr, .ref ba, .int bc, .int nc, .int lf, .int mi, .ref tr, .ref wk, .ref sd]))]) (tysc := []) (tk := []) hP.left hD.left hK hS hA hE hZ [0] (by decide) rfl rfl rfl U hU hW⟩⟩ rfl rfl hl.1 rfl (lv_room (Nat.le_of_ble_eq_true rfl)) dX5_openDefinition_10 ⟨by decide, by decide⟩) hP hD hK hS hA [0] [1, 2, 3] rfl rfl (by decide) (by decide) (fun v u H locs hw hP hD hK9 hS => ?_)
  have hw : v = some (.int (k_isPred (k_pred (r_codeAt (r_place f) f n)) pr)) := hw
  subst hw
  have hP : va_P D vwCl ([(da, .inl (cF, 30, .inr (.inr (.inr (.inr DA))))), (wk, .inr (3, [.ref wkc, .int n, .int z])), (wkc, .inl (cR, 512, .inl f)), (d, .inr (4, [.ref fa, .int fc, .int cc, .ref ma, .ref da, .int pr, .ref ba, .int bc, .int nc, .int lf, .int mi, .ref tr, .ref wk, .ref sd]))] ++ po) H := hP
  have hD : va_D _ ([(da, .inl (cF, 30, .inr (.inr (.inr (.inr DA))))), (wk, .inr (3, [.ref wkc, .int n, .int z])), (wkc, .inl (cR, 512, .inl f)), (d, .inr (4, [.ref fa, .int fc, .int cc, .ref ma, .ref da, .int pr, .ref ba, .int bc, .int nc, .int lf, .int mi, .ref tr, .ref wk, .ref sd]))] ++ po) := hD
  refine W.eq (g2 := F0 m 13 ls [.int (k_isPred (k_pred (r_codeAt (r_place f) f n)) pr)]) rfl ?_
  refine lv_if_eq (tgt := 25) hx hb dX5_openDefinition_13 (by decide) (fun c_13 => ?_) (fun c_13 => ?_)
  · refine lv_iconst (v := 0) hx hb dX5_openDefinition_25 (by decide) ?_
    exact ck_iret ⟨f, n, z⟩ hx hb hr rfl hlocks ⟨(congrArg (fun z9 => some (Value.int z9)) (show (0 : Int32) = d_had (o_def (k_pred (r_codeAt (r_place f) f n)) pr DA) from (by unfold d_had; rw [o_def_a c_13]; rfl))), (by unfold o_row; rw [if_neg (not_isSome (o_def_a c_13))])⟩ (hP.part [3, 0, 1, 2] rfl) (hK.sub [0, 1] rfl) (hD.part [3, 0, 1, 2] (by decide) rfl) hS (by decide) (by decide) dX5_openDefinition_26
  · refine lv_aload_n hx hb dX5_openDefinition_16 rfl (lv_at hl 1 rfl) ?_
    refine va_get (ci := 4) (v := .ref da) (C := RX5) (T := TX5) (N := 14) hx hb hts inG_X5 hown hK hP 3 rfl rfl 4 (by decide) (hts _ tw_1_121) (fun _ h9 => h9) rfl dX5_openDefinition_17 ?_
    refine lv_iload_n hx hb dX5_openDefinition_20 rfl (lv_at hl 0 rfl) ?_
    refine va_aldq hx hb hK hP 0 1 rfl rfl (isPred_in c_13) dX5_openDefinition_21 ?_
    obtain ⟨op_1, ho_1⟩ : ∃ x9 : Option Nat, DA ((k_pred (r_codeAt (r_place f) f n)).toNatClampNeg) = x9 := ⟨_, rfl⟩
    cases op_1 with
    | none =>
      refine W.eq (g2 := F0 m 22 ls [.null]) (by rw [ho_1] <;> rfl) ?_
      refine lv_ifnonnullN hx hb dX5_openDefinition_22 ?_
      refine lv_iconst (v := 0) hx hb dX5_openDefinition_25 (by decide) ?_
      exact ck_iret ⟨f, n, z⟩ hx hb hr rfl hlocks ⟨(congrArg (fun z9 => some (Value.int z9)) (show (0 : Int32) = d_had (o_def (k_pred (r_codeAt (r_place f) f n)) pr DA) from (by unfold d_had; rw [o_def_b c_13 ho_1]; rfl))), (by unfold o_row; rw [if_neg (not_isSome (o_def_b c_13 ho_1))])⟩ (hP.part [3, 0, 1, 2] rfl) (hK.sub [0, 1] rfl) (hD.part [3, 0, 1, 2] (by decide) rfl) hS (by decide) (by decide) dX5_openDefinition_26
    | some a_1 =>
      refine W.eq (g2 := F0 m 22 ls [.ref a_1]) (by rw [ho_1] <;> rfl) ?_
      have ho9 := o_def_b c_13 ho_1
      obtain ⟨hN_a_1, i_a_1, j_a_1, q_a_1, hgo_a_1, hgc_a_1⟩ := hDA _ a_1 ho9
      refine lv_ifnonnull (tgt := 27) hx hb dX5_openDefinition_22 (by decide) ?_
      refine lv_aload_n hx hb dX5_openDefinition_27 rfl (lv_at hl 1 rfl) ?_
      refine va_get (ci := 4) (v := .ref wk) (C := RX5) (T := TX5) (N := 14) hx hb hts inG_X5 hown hK hP 3 rfl rfl 12 (by decide) (hts _ tw_1_129) (fun _ h9 => h9) rfl dX5_openDefinition_28 ?_
      refine lv_aload_n hx hb dX5_openDefinition_31 rfl (lv_at hl 1 rfl) ?_
      refine va_get (ci := 4) (v := .ref da) (C := RX5) (T := TX5) (N := 14) hx hb hts inG_X5 hown hK hP 3 rfl rfl 4 (by decide) (hts _ tw_1_121) (fun _ h9 => h9) rfl dX5_openDefinition_32 ?_
      refine lv_iload_n hx hb dX5_openDefinition_35 rfl (lv_at hl 0 rfl) ?_
      refine va_aldq hx hb hK hP 0 1 rfl rfl (isPred_in c_13) dX5_openDefinition_36 ?_
      refine W.eq (g2 := F0 m 37 ls [.ref a_1, .ref wk]) (by rw [ho_1]; rfl) ?_
      have hP : va_P D vwCl ([(da, .inl (cF, 30, .inr (.inr (.inr (.inr DA))))), (wk, .inr (3, [.ref wkc, .int n, .int z])), (wkc, .inl (cR, 512, .inl f)), (d, .inr (4, [.ref fa, .int fc, .int cc, .ref ma, .ref da, .int pr, .ref ba, .int bc, .int nc, .int lf, .int mi, .ref tr, .ref wk, .ref sd]))] ++ po) H := hP
      have hD : va_D _ ([(da, .inl (cF, 30, .inr (.inr (.inr (.inr DA))))), (wk, .inr (3, [.ref wkc, .int n, .int z])), (wkc, .inl (cR, 512, .inl f)), (d, .inr (4, [.ref fa, .int fc, .int cc, .ref ma, .ref da, .int pr, .ref ba, .int bc, .int nc, .int lf, .int mi, .ref tr, .ref wk, .ref sd]))] ++ po) := hD
      refine ck_runP (wr := [(da, .inl (cF, 30, .inr (.inr (.inr (.inr DA))))), (d, .inr (4, [.ref fa, .int fc, .int cc, .ref ma, .ref da, .int pr, .ref ba, .int bc, .int nc, .int lf, .int mi, .ref tr, .ref wk, .ref sd]))]) (rx := fun u => [(wk, .inr (3, [.ref wkc, .int u.2.1, .int u.2.2])), (wkc, .inl (cR, 512, .inl u.1))]) (pl1 := fun u => po) (va_runV (C := RX4) (As := [.ref a_1]) (rest := []) ⟨hx, hb, hml, hown, hts⟩ (c_open l D H.size wk wkc cR f n z po j_a_1 i_a_1 a_1 q_a_1 ((DS (k_pred (r_codeAt (r_place f) f n)).toNatClampNeg).1) ((DS (k_pred (r_codeAt (r_place f) f n)).toNatClampNeg).2) (fm_whole (DS (k_pred (r_codeAt (r_place f) f n)).toNatClampNeg).2 (DS (k_pred (r_codeAt (r_place f) f n)).toNatClampNeg).1) ((fm (DS (k_pred (r_codeAt (r_place f) f n)).toNatClampNeg).2 (DS (k_pred (r_codeAt (r_place f) f n)).toNatClampNeg).1).2) hgo_a_1 hgc_a_1 hN_a_1 hn) (cw_V (n := 1) hts tw_3_111 tw_3_112 tw_3_113 tw_1_3 tw_3_114 (by decide +kernel) ⟨by decide, by decide⟩) ⟨pre.blind, va_recv (q := (RX4, TX4, 3)) hK hP (ci := 3) (q0 := 1) rfl rfl, fun U hU hW => ⟨rfl, pre.ofP (cx := [(wk, .inr (3, [.ref wkc, .int n, .int z])), (wkc, .inl (cR, 512, .inl f))]) (pl := po) (tysc := [(cR, .int)]) (tk := [0]) hP hD hK hS hA hE hZ [1, 2] (by decide) rfl rfl U hU hW⟩⟩ rfl rfl hl.1 rfl (lv_room (Nat.le_of_ble_eq_true rfl)) dX5_openDefinition_37 ⟨by decide, by decide⟩) hP hD hK hS hA (fun _ => rfl) [1, 2] [0, 3] rfl rfl (by decide) (by decide) (fun v u H locs hw hP hD hK9 hS => ?_)
      obtain ⟨f1_2, n1_3, z1_4⟩ := u
      have hw : v = none ∧ r_open ((DS (k_pred (r_codeAt (r_place f) f n)).toNatClampNeg).2) ((DS (k_pred (r_codeAt (r_place f) f n)).toNatClampNeg).1) f n z = (f1_2, n1_3, z1_4) := hw
      obtain ⟨rfl, hq_5⟩ := hw
      have hP : va_P D vwCl ([(da, .inl (cF, 30, .inr (.inr (.inr (.inr DA))))), (d, .inr (4, [.ref fa, .int fc, .int cc, .ref ma, .ref da, .int pr, .ref ba, .int bc, .int nc, .int lf, .int mi, .ref tr, .ref wk, .ref sd])), (wk, .inr (3, [.ref wkc, .int n1_3, .int z1_4])), (wkc, .inl (cR, 512, .inl f1_2))] ++ po) H := hP
      have hD : va_D _ ([(da, .inl (cF, 30, .inr (.inr (.inr (.inr DA))))), (d, .inr (4, [.ref fa, .int fc, .int cc, .ref ma, .ref da, .int pr, .ref ba, .int bc, .int nc, .int lf, .int mi, .ref tr, .ref wk, .ref sd])), (wk, .inr (3, [.ref wkc, .int n1_3, .int z1_4])), (wkc, .inl (cR, 512, .inl f1_2))] ++ po) := hD
      refine W.eq (g2 := F0 m 40 ls []) rfl ?_
      refine lv_iconst (v := 1) hx hb dX5_openDefinition_40 (by decide) ?_
      exact ck_iret ⟨f1_2, n1_3, z1_4⟩ hx hb hr rfl hlocks ⟨(congrArg (fun z9 => some (Value.int z9)) (show (1 : Int32) = d_had (o_def (k_pred (r_codeAt (r_place f) f n)) pr DA) from (by unfold d_had; rw [o_def_b c_13 ho_1]; rfl))), (by unfold o_row; rw [if_pos (isSome_of (o_def_b c_13 ho_1))]; exact hq_5)⟩ (hP.part [1, 0, 2, 3] rfl) (hK.sub [0, 1] rfl) (hD.part [1, 0, 2, 3] (by decide) rfl) hS (by decide) (by decide) dX5_openDefinition_41
