set_option maxHeartbeats 4000000 in
set_option maxRecDepth 100000 in
theorem c_isPred (l : Launch) (D : va_G) (sz : Nat) (d fa ma da ba wk sd tr : Nat) (fc cc pr bc nc lf mi : Int32) (x : Int32) : cM l yX5_isPredicate (.code yX5_isPredicate cX5_isPredicate 2 (some .boolean)) 10 270 0 0 [.ref d, .int x] D [] [(d, .inr (4, [.ref fa, .int fc, .int cc, .ref ma, .ref da, .int pr, .ref ba, .int bc, .int nc, .int lf, .int mi, .ref tr, .ref wk, .ref sd]))] sz (S := Unit) (fun v _ => v = some (.int (k_isPred x pr))) (fun _ => [(d, .inr (4, [.ref fa, .int fc, .int cc, .ref ma, .ref da, .int pr, .ref ba, .int bc, .int nc, .int lf, .int mi, .ref tr, .ref wk, .ref sd]))]) (fun _ => []) := by
  refine cM_of (by decide) (Nat.le_of_ble_eq_true rfl) ?_
  intro p e s m below meth c ls hF hsz hP hK hD hE hZ hA hl
  obtain ⟨hx, hb, hr, hml, hown, hlocks, hnm, htb, hts⟩ := hF
  have hown : s.vm.findClass RX5 = some m.cls := hown
  have hl : lv_has ls 2 [(0, .ref d), (1, .int x)] := hl
  have hS : va_S (va_A [(d, .inr (4, [.ref fa, .int fc, .int cc, .ref ma, .ref da, .int pr, .ref ba, .int bc, .int nc, .int lf, .int mi, .ref tr, .ref wk, .ref sd]))] sz) s.heap s.heap [] := va_S.rf
  refine lv_iload_n hx hb dX5_isPredicate_0 rfl (lv_at hl 1 rfl) ?_
  refine lv_if_lt (tgt := 22) hx hb dX5_isPredicate_1 (by decide) (fun c_1 => ?_) (fun c_1 => ?_)
  · refine lv_iconst (v := 0) hx hb dX5_isPredicate_22 (by decide) ?_
    exact ck_iret () hx hb hr rfl hlocks (congrArg (fun z9 => some (Value.int z9)) (show (0 : Int32) = k_isPred x pr from (by unfold k_isPred; rw [if_pos c_1]))) (hP.sub [0] rfl) (hK.sub [] rfl) (hD.sub [0] (by decide) rfl) hS (by decide) (by decide) dX5_isPredicate_23
  · refine lv_iload_n hx hb dX5_isPredicate_4 rfl (lv_at hl 1 rfl) ?_
    refine lv_aload_n hx hb dX5_isPredicate_5 rfl (lv_at hl 0 rfl) ?_
    refine va_get (ci := 4) (v := .int pr) (C := RX5) (T := TX5) (N := 14) hx hb hts inG_X5 hown hK hP 0 rfl rfl 5 (by decide) (hts _ tw_1_122) (fun _ h9 => h9) rfl dX5_isPredicate_6 ?_
    refine lv_icmp_ge (tgt := 22) hx hb dX5_isPredicate_9 (by decide) (fun c_9 => ?_) (fun c_9 => ?_)
    · refine lv_iconst (v := 0) hx hb dX5_isPredicate_22 (by decide) ?_
      exact ck_iret () hx hb hr rfl hlocks (congrArg (fun z9 => some (Value.int z9)) (show (0 : Int32) = k_isPred x pr from (by unfold k_isPred; rw [if_neg c_1, if_pos c_9]))) (hP.sub [0] rfl) (hK.sub [] rfl) (hD.sub [0] (by decide) rfl) hS (by decide) (by decide) dX5_isPredicate_23
    · refine lv_iload_n hx hb dX5_isPredicate_12 rfl (lv_at hl 1 rfl) ?_
      refine lv_bipush (v := 30) hx hb dX5_isPredicate_13 (by decide) ?_
      refine lv_icmp_ge (tgt := 22) hx hb dX5_isPredicate_15 (by decide) (fun c_15 => ?_) (fun c_15 => ?_)
      · refine lv_iconst (v := 0) hx hb dX5_isPredicate_22 (by decide) ?_
        exact ck_iret () hx hb hr rfl hlocks (congrArg (fun z9 => some (Value.int z9)) (show (0 : Int32) = k_isPred x pr from (by unfold k_isPred; rw [if_neg c_1, if_neg c_9, if_pos c_15]))) (hP.sub [0] rfl) (hK.sub [] rfl) (hD.sub [0] (by decide) rfl) hS (by decide) (by decide) dX5_isPredicate_23
      · refine lv_iconst (v := 1) hx hb dX5_isPredicate_18 (by decide) ?_
        refine lv_goto (tgt := 23) hx hb dX5_isPredicate_19 (by decide) ?_
        exact ck_iret () hx hb hr rfl hlocks (congrArg (fun z9 => some (Value.int z9)) (show (1 : Int32) = k_isPred x pr from (by unfold k_isPred; rw [if_neg c_1, if_neg c_9, if_neg c_15]))) (hP.sub [0] rfl) (hK.sub [] rfl) (hD.sub [0] (by decide) rfl) hS (by decide) (by decide) dX5_isPredicate_23
set_option maxHeartbeats 4000000 in
set_option maxRecDepth 100000 in
theorem c_formAt (l : Launch) (D : va_G) (sz : Nat) (d fa ma da ba wk sd tr : Nat) (fc cc pr bc nc lf mi : Int32) (cF : ClassId) (FA : Nat → Option Nat) (x : Int32) : cM l yX5_formAt (.code yX5_formAt cX5_formAt 2 (some (.object "ThesisDesk$Form"))) 10 270 0 0 [.ref d, .int x] D [(cF, .object RX2)] [(d, .inr (4, [.ref fa, .int fc, .int cc, .ref ma, .ref da, .int pr, .ref ba, .int bc, .int nc, .int lf, .int mi, .ref tr, .ref wk, .ref sd])), (fa, .inl (cF, 1000, .inr (.inr (.inr (.inr FA)))))] sz (S := Unit) (fun v _ => v = some (va_rf (q_formAt x fc FA))) (fun _ => [(d, .inr (4, [.ref fa, .int fc, .int cc, .ref ma, .ref da, .int pr, .ref ba, .int bc, .int nc, .int lf, .int mi, .ref tr, .ref wk, .ref sd])), (fa, .inl (cF, 1000, .inr (.inr (.inr (.inr FA)))))]) (fun _ => [(cF, .object RX2)]) := by
  refine cM_of (by decide) (Nat.le_of_ble_eq_true rfl) ?_
  intro p e s m below meth c ls hF hsz hP hK hD hE hZ hA hl
  obtain ⟨hx, hb, hr, hml, hown, hlocks, hnm, htb, hts⟩ := hF
  have hown : s.vm.findClass RX5 = some m.cls := hown
  have hl : lv_has ls 2 [(0, .ref d), (1, .int x)] := hl
  have hS : va_S (va_A [(d, .inr (4, [.ref fa, .int fc, .int cc, .ref ma, .ref da, .int pr, .ref ba, .int bc, .int nc, .int lf, .int mi, .ref tr, .ref wk, .ref sd])), (fa, .inl (cF, 1000, .inr (.inr (.inr (.inr FA)))))] sz) s.heap s.heap [] := va_S.rf
  refine lv_iload_n hx hb dX5_formAt_0 rfl (lv_at hl 1 rfl) ?_
  refine lv_if_lt (tgt := 28) hx hb dX5_formAt_1 (by decide) (fun c_1 => ?_) (fun c_1 => ?_)
  · refine lv_null hx hb dX5_formAt_28 ?_
    exact ck_aret () hx hb hr (Or.inl ⟨_, rfl⟩) (Or.inl rfl) hlocks (congrArg some (show (.null : Value) = va_rf (q_formAt x fc FA) from (by unfold q_formAt; rw [if_pos c_1] <;> rfl))) (hP.sub [0, 1] rfl) (hK.sub [0] rfl) (hD.sub [0, 1] (by decide) rfl) hS (by decide) (by decide) dX5_formAt_29
  · refine lv_iload_n hx hb dX5_formAt_4 rfl (lv_at hl 1 rfl) ?_
    refine lv_aload_n hx hb dX5_formAt_5 rfl (lv_at hl 0 rfl) ?_
    refine va_get (ci := 4) (v := .int fc) (C := RX5) (T := TX5) (N := 14) hx hb hts inG_X5 hown hK hP 0 rfl rfl 1 (by decide) (hts _ tw_1_118) (fun _ h9 => h9) rfl dX5_formAt_6 ?_
    refine lv_icmp_ge (tgt := 28) hx hb dX5_formAt_9 (by decide) (fun c_9 => ?_) (fun c_9 => ?_)
    · refine lv_null hx hb dX5_formAt_28 ?_
      exact ck_aret () hx hb hr (Or.inl ⟨_, rfl⟩) (Or.inl rfl) hlocks (congrArg some (show (.null : Value) = va_rf (q_formAt x fc FA) from (by unfold q_formAt; rw [if_neg c_1, if_pos c_9] <;> rfl))) (hP.sub [0, 1] rfl) (hK.sub [0] rfl) (hD.sub [0, 1] (by decide) rfl) hS (by decide) (by decide) dX5_formAt_29
    · refine lv_iload_n hx hb dX5_formAt_12 rfl (lv_at hl 1 rfl) ?_
      refine lv_sipush (v := 1000) hx hb dX5_formAt_13 (by decide) ?_
      refine lv_icmp_ge (tgt := 28) hx hb dX5_formAt_16 (by decide) (fun c_16 => ?_) (fun c_16 => ?_)
      · refine lv_null hx hb dX5_formAt_28 ?_
        exact ck_aret () hx hb hr (Or.inl ⟨_, rfl⟩) (Or.inl rfl) hlocks (congrArg some (show (.null : Value) = va_rf (q_formAt x fc FA) from (by unfold q_formAt; rw [if_neg c_1, if_neg c_9, if_pos c_16] <;> rfl))) (hP.sub [0, 1] rfl) (hK.sub [0] rfl) (hD.sub [0, 1] (by decide) rfl) hS (by decide) (by decide) dX5_formAt_29
      · refine lv_aload_n hx hb dX5_formAt_19 rfl (lv_at hl 0 rfl) ?_
        refine va_get (ci := 4) (v := .ref fa) (C := RX5) (T := TX5) (N := 14) hx hb hts inG_X5 hown hK hP 0 rfl rfl 0 (by decide) (hts _ tw_1_117) (fun _ h9 => h9) rfl dX5_formAt_20 ?_
        refine lv_iload_n hx hb dX5_formAt_23 rfl (lv_at hl 1 rfl) ?_
        refine va_aldq hx hb hK hP 1 0 rfl rfl (vp_in_iff.mpr ⟨by have q := i_nlt c_1; rw [i0] at q; exact q, by have q := i_nle c_16; rw [show (1000 : Int32).toInt = 1000 from by decide] at q; exact q⟩) dX5_formAt_24 ?_
        refine lv_goto (tgt := 29) hx hb dX5_formAt_25 (by decide) ?_
        exact ck_aret () hx hb hr (Or.inl ⟨_, rfl⟩) (va_rf_or _) hlocks (congrArg some (show (va_rf (FA (x.toNatClampNeg)) : Value) = va_rf (q_formAt x fc FA) from (by unfold q_formAt; rw [if_neg c_1, if_neg c_9, if_neg c_16] <;> rfl))) (hP.sub [0, 1] rfl) (hK.sub [0] rfl) (hD.sub [0, 1] (by decide) rfl) hS (by decide) (by decide) dX5_formAt_29
set_option maxHeartbeats 4000000 in
set_option maxRecDepth 100000 in
theorem c_wholeAt (l : Launch) (D : va_G) (sz : Nat) (d fa ma da ba wk sd tr : Nat) (fc cc pr bc nc lf mi : Int32) (cF : ClassId) (FA : Nat → Option Nat) (cR : ClassId) (po : va_W) (FS : Nat → FR) (hI : fAll cR po fc FA FS) (x : Int32) : cM l yX5_wholeAt (.code yX5_wholeAt cX5_wholeAt 3 (some (.object "ThesisDesk$Form"))) 12 340 0 0 [.ref d, .int x] D [(cR, .int), (cF, .object RX2)] ([(d, .inr (4, [.ref fa, .int fc, .int cc, .ref ma, .ref da, .int pr, .ref ba, .int bc, .int nc, .int lf, .int mi, .ref tr, .ref wk, .ref sd])), (fa, .inl (cF, 1000, .inr (.inr (.inr (.inr FA)))))] ++ po) sz (S := Unit) (fun v _ => v = some (va_rf (q_at p_whole x fc FA FS))) (fun _ => ([(d, .inr (4, [.ref fa, .int fc, .int cc, .ref ma, .ref da, .int pr, .ref ba, .int bc, .int nc, .int lf, .int mi, .ref tr, .ref wk, .ref sd])), (fa, .inl (cF, 1000, .inr (.inr (.inr (.inr FA)))))] ++ po)) (fun _ => [(cR, .int), (cF, .object RX2)]) := by
  refine cM_of (by decide) (Nat.le_of_ble_eq_true rfl) ?_
  intro p e s m below meth c ls hF hsz hP hK hD hE hZ hA hl
  obtain ⟨hx, hb, hr, hml, hown, hlocks, hnm, htb, hts⟩ := hF
  have hown : s.vm.findClass RX5 = some m.cls := hown
  have hl : lv_has ls 3 [(0, .ref d), (1, .int x)] := hl
  have hS : va_S (va_A ([(d, .inr (4, [.ref fa, .int fc, .int cc, .ref ma, .ref da, .int pr, .ref ba, .int bc, .int nc, .int lf, .int mi, .ref tr, .ref wk, .ref sd])), (fa, .inl (cF, 1000, .inr (.inr (.inr (.inr FA)))))] ++ po) sz) s.heap s.heap [] := va_S.rf
  refine lv_aload_n hx hb dX5_wholeAt_0 rfl (lv_at hl 0 rfl) ?_
  refine lv_iload_n hx hb dX5_wholeAt_1 rfl (lv_at hl 1 rfl) ?_
  refine ck_runQ (wr := []) (va_runV (C := RX5) (As := [.int x]) (rest := []) ⟨hx, hb, hml, hown, hts⟩ (c_formAt l D s.heap.size d fa ma da ba wk sd tr fc cc pr bc nc lf mi cF FA x) (cw_V (n := 1) hts tw_2_31 tw_2_33 tw_s3 tw_1_1 tw_2_34 (by decide +kernel) ⟨by decide, by decide⟩) ⟨pre.blind, va_recv (q := (RX5, TX5, 14)) hK hP (ci := 4) (q0 := 0) rfl rfl, fun U hU hW => ⟨rfl, pre.of (wc := [(d, .inr (4, [.ref fa, .int fc, .int cc, .ref ma, .ref da, .int pr, .ref ba, .int bc, .int nc, .int lf, .int mi, .ref tr, .ref wk, .ref sd])), (fa, .inl (cF, 1000, .inr (.inr (.inr (.inr FA)))))]) (tysc := [(cF, .object RX2)]) (tk := [1]) hP.left hD.left hK hS hA hE hZ [0, 1] (by decide) rfl rfl rfl U hU hW⟩⟩ rfl rfl hl.1 rfl (lv_room (Nat.le_of_ble_eq_true rfl)) dX5_wholeAt_2 ⟨by decide, by decide⟩) hP hD hK hS hA [0, 1] [] rfl rfl (by decide) (by decide) (fun v u H locs hw hP hD hK9 hS => ?_)
  have hw : v = some (va_rf (q_formAt x fc FA)) := hw
  subst hw
  have hP : va_P D vwCl ([(d, .inr (4, [.ref fa, .int fc, .int cc, .ref ma, .ref da, .int pr, .ref ba, .int bc, .int nc, .int lf, .int mi, .ref tr, .ref wk, .ref sd])), (fa, .inl (cF, 1000, .inr (.inr (.inr (.inr FA)))))] ++ po) H := hP
  have hD : va_D _ ([(d, .inr (4, [.ref fa, .int fc, .int cc, .ref ma, .ref da, .int pr, .ref ba, .int bc, .int nc, .int lf, .int mi, .ref tr, .ref wk, .ref sd])), (fa, .inl (cF, 1000, .inr (.inr (.inr (.inr FA)))))] ++ po) := hD
  refine W.eq (g2 := F0 m 5 ls [va_rf (q_formAt x fc FA)]) rfl ?_
  obtain ⟨op_1, ho_1⟩ : ∃ x9 : Option Nat, q_formAt x fc FA = x9 := ⟨_, rfl⟩
  cases op_1 with
  | none =>
    refine W.eq (g2 := F0 m 5 ls [.null]) (by rw [ho_1] <;> rfl) ?_
    refine lv_astore_nN (lv' := [(2, .null), (0, .ref d), (1, .int x)]) hx hb dX5_wholeAt_5 rfl hl (by decide) rfl (fun ls hl => ?_)
    refine lv_aload_nN hx hb dX5_wholeAt_6 rfl (lv_at hl 0 rfl) ?_
    refine lv_ifnullN (tgt := 21) hx hb dX5_wholeAt_7 (by decide) ?_
    refine lv_null hx hb dX5_wholeAt_21 ?_
    exact ck_aret () hx hb hr (Or.inl ⟨_, rfl⟩) (Or.inl rfl) hlocks (congrArg some (show (.null : Value) = va_rf (q_at p_whole x fc FA FS) from (by rw [q_at_none0 ho_1]; rfl))) (hP.part [0, 1] rfl) (hK.sub [0, 1] rfl) (hD.part [0, 1] (by decide) rfl) hS (by decide) (by decide) dX5_wholeAt_22
  | some a_1 =>
    refine W.eq (g2 := F0 m 5 ls [.ref a_1]) (by rw [ho_1] <;> rfl) ?_
    have hf_a_1 : q_formAt x fc FA = some a_1 := ho_1
    obtain ⟨hN_a_1, i_a_1, j_a_1, q_a_1, hgo_a_1, hgc_a_1⟩ := hI x a_1 hf_a_1
    refine lv_astore_n (lv' := [(2, .ref a_1), (0, .ref d), (1, .int x)]) hx hb dX5_wholeAt_5 rfl hl (by decide) rfl (fun ls hl => ?_)
    refine lv_aload_n hx hb dX5_wholeAt_6 rfl (lv_at hl 0 rfl) ?_
    refine lv_ifnull hx hb dX5_wholeAt_7 ?_
    refine lv_aload_n hx hb dX5_wholeAt_10 rfl (lv_at hl 0 rfl) ?_
    refine va_getN (ci := 1) (v := .int (fm_whole (FS x.toNatClampNeg).2 (FS x.toNatClampNeg).1)) (C := RX2) (T := TX2) (N := 3) hx hb hts inG_X2 hown hK hP (i_a_1 + 2) hgo_a_1 rfl 1 (by decide) (hE.w tn_1_107 rfl) (fun _ h9 => h9) rfl dX5_wholeAt_11 ?_
    refine lv_if_eq (tgt := 21) hx hb dX5_wholeAt_14 (by decide) (fun c_14 => ?_) (fun c_14 => ?_)
    · refine lv_null hx hb dX5_wholeAt_21 ?_
      exact ck_aret () hx hb hr (Or.inl ⟨_, rfl⟩) (Or.inl rfl) hlocks (congrArg some (show (.null : Value) = va_rf (q_at p_whole x fc FA FS) from (by rw [q_at_no hf_a_1 (show p_whole (FS x.toNatClampNeg) = 0 from c_14)]; rfl))) (hP.part [0, 1] rfl) (hK.sub [0, 1] rfl) (hD.part [0, 1] (by decide) rfl) hS (by decide) (by decide) dX5_wholeAt_22
    · refine lv_aload_n hx hb dX5_wholeAt_17 rfl (lv_at hl 0 rfl) ?_
      refine lv_goto (tgt := 22) hx hb dX5_wholeAt_18 (by decide) ?_
      exact ck_aret () hx hb hr (Or.inl ⟨_, rfl⟩) (Or.inr ⟨_, rfl⟩) hlocks (congrArg some (show (.ref a_1 : Value) = va_rf (q_at p_whole x fc FA FS) from (by rw [q_at_yes hf_a_1 (show ¬ p_whole (FS x.toNatClampNeg) = 0 from c_14)]; rfl))) (hP.part [0, 1] rfl) (hK.sub [0, 1] rfl) (hD.part [0, 1] (by decide) rfl) hS (by decide) (by decide) dX5_wholeAt_22
set_option maxHeartbeats 4000000 in
set_option maxRecDepth 100000 in
theorem c_formulaAt (l : Launch) (D : va_G) (sz : Nat) (d fa ma da ba wk sd tr : Nat) (fc cc pr bc nc lf mi : Int32) (cF : ClassId) (FA : Nat → Option Nat) (cR : ClassId) (po : va_W) (FS : Nat → FR) (hI : fAll cR po fc FA FS) (x : Int32) : cM l yX5_formulaAt (.code yX5_formulaAt cX5_formulaAt 3 (some (.object "ThesisDesk$Form"))) 16 480 0 0 [.ref d, .int x] D [(cR, .int), (cF, .object RX2)] ([(d, .inr (4, [.ref fa, .int fc, .int cc, .ref ma, .ref da, .int pr, .ref ba, .int bc, .int nc, .int lf, .int mi, .ref tr, .ref wk, .ref sd])), (fa, .inl (cF, 1000, .inr (.inr (.inr (.inr FA)))))] ++ po) sz (S := Unit) (fun v _ => v = some (va_rf (q_at p_form x fc FA FS))) (fun _ => ([(d, .inr (4, [.ref fa, .int fc, .int cc, .ref ma, .ref da, .int pr, .ref ba, .int bc, .int nc, .int lf, .int mi, .ref tr, .ref wk, .ref sd])), (fa, .inl (cF, 1000, .inr (.inr (.inr (.inr FA)))))] ++ po)) (fun _ => [(cR, .int), (cF, .object RX2)]) := by
  refine cM_of (by decide) (Nat.le_of_ble_eq_true rfl) ?_
  intro p e s m below meth c ls hF hsz hP hK hD hE hZ hA hl
  obtain ⟨hx, hb, hr, hml, hown, hlocks, hnm, htb, hts⟩ := hF
  have hown : s.vm.findClass RX5 = some m.cls := hown
  have hl : lv_has ls 3 [(0, .ref d), (1, .int x)] := hl
  have hS : va_S (va_A ([(d, .inr (4, [.ref fa, .int fc, .int cc, .ref ma, .ref da, .int pr, .ref ba, .int bc, .int nc, .int lf, .int mi, .ref tr, .ref wk, .ref sd])), (fa, .inl (cF, 1000, .inr (.inr (.inr (.inr FA)))))] ++ po) sz) s.heap s.heap [] := va_S.rf
  refine lv_aload_n hx hb dX5_formulaAt_0 rfl (lv_at hl 0 rfl) ?_
  refine lv_iload_n hx hb dX5_formulaAt_1 rfl (lv_at hl 1 rfl) ?_
  have hP : va_P D vwCl ([(d, .inr (4, [.ref fa, .int fc, .int cc, .ref ma, .ref da, .int pr, .ref ba, .int bc, .int nc, .int lf, .int mi, .ref tr, .ref wk, .ref sd])), (fa, .inl (cF, 1000, .inr (.inr (.inr (.inr FA)))))] ++ po) s.heap := hP
  have hD : va_D _ ([(d, .inr (4, [.ref fa, .int fc, .int cc, .ref ma, .ref da, .int pr, .ref ba, .int bc, .int nc, .int lf, .int mi, .ref tr, .ref wk, .ref sd])), (fa, .inl (cF, 1000, .inr (.inr (.inr (.inr FA)))))] ++ po) := hD
  refine ck_runP (wr := []) (rx := fun _ => [(d, .inr (4, [.ref fa, .int fc, .int cc, .ref ma, .ref da, .int pr, .ref ba, .int bc, .int nc, .int lf, .int mi, .ref tr, .ref wk, .ref sd])), (fa, .inl (cF, 1000, .inr (.inr (.inr (.inr FA)))))]) (pl1 := fun _ => po) (va_runV (C := RX5) (As := [.int x]) (rest := []) ⟨hx, hb, hml, hown, hts⟩ (c_wholeAt l D s.heap.size d fa ma da ba wk sd tr fc cc pr bc nc lf mi cF FA cR po FS hI x) (cw_V (n := 1) hts tw_2_27 tw_2_29 tw_s2 tw_1_1 tw_2_30 (by decide +kernel) ⟨by decide, by decide⟩) ⟨pre.blind, va_recv (q := (RX5, TX5, 14)) hK hP (ci := 4) (q0 := 0) rfl rfl, fun U hU hW => ⟨rfl, pre.ofP (cx := [(d, .inr (4, [.ref fa, .int fc, .int cc, .ref ma, .ref da, .int pr, .ref ba, .int bc, .int nc, .int lf, .int mi, .ref tr, .ref wk, .ref sd])), (fa, .inl (cF, 1000, .inr (.inr (.inr (.inr FA)))))]) (pl := po) (tysc := [(cR, .int), (cF, .object RX2)]) (tk := [0, 1]) hP hD hK hS hA hE hZ [0, 1] (by decide) rfl rfl U hU hW⟩⟩ rfl rfl hl.1 rfl (lv_room (Nat.le_of_ble_eq_true rfl)) dX5_formulaAt_2 ⟨by decide, by decide⟩) hP hD hK hS hA (fun _ => rfl) [0, 1] [] rfl rfl (by decide) (by decide) (fun v u H locs hw hP hD hK9 hS => ?_)
  have hw : v = some (va_rf (q_at p_whole x fc FA FS)) := hw
  subst hw
  have hP : va_P D vwCl ([(d, .inr (4, [.ref fa, .int fc, .int cc, .ref ma, .ref da, .int pr, .ref ba, .int bc, .int nc, .int lf, .int mi, .ref tr, .ref wk, .ref sd])), (fa, .inl (cF, 1000, .inr (.inr (.inr (.inr FA)))))] ++ po) H := hP
  have hD : va_D _ ([(d, .inr (4, [.ref fa, .int fc, .int cc, .ref ma, .ref da, .int pr, .ref ba, .int bc, .int nc, .int lf, .int mi, .ref tr, .ref wk, .ref sd])), (fa, .inl (cF, 1000, .inr (.inr (.inr (.inr FA)))))] ++ po) := hD
  refine W.eq (g2 := F0 m 5 ls [va_rf (q_at p_whole x fc FA FS)]) rfl ?_
  obtain ⟨op_1, ho_1⟩ : ∃ x9 : Option Nat, q_at p_whole x fc FA FS = x9 := ⟨_, rfl⟩
  cases op_1 with
  | none =>
    refine W.eq (g2 := F0 m 5 ls [.null]) (by rw [ho_1] <;> rfl) ?_
    refine lv_astore_nN (lv' := [(2, .null), (0, .ref d), (1, .int x)]) hx hb dX5_formulaAt_5 rfl hl (by decide) rfl (fun ls hl => ?_)
    refine lv_aload_nN hx hb dX5_formulaAt_6 rfl (lv_at hl 0 rfl) ?_
    refine lv_ifnullN (tgt := 21) hx hb dX5_formulaAt_7 (by decide) ?_
    refine lv_null hx hb dX5_formulaAt_21 ?_
    exact ck_aret () hx hb hr (Or.inl ⟨_, rfl⟩) (Or.inl rfl) hlocks (congrArg some (show (.null : Value) = va_rf (q_at p_form x fc FA FS) from (by rw [q_at_none ho_1 p_form_0]; rfl))) (hP.part [0, 1] rfl) (hK.sub [0, 1] rfl) (hD.part [0, 1] (by decide) rfl) hS (by decide) (by decide) dX5_formulaAt_22
  | some a_1 =>
    refine W.eq (g2 := F0 m 5 ls [.ref a_1]) (by rw [ho_1] <;> rfl) ?_
    have hf_a_1 : q_formAt x fc FA = some a_1 := (q_at_form ho_1).1
    obtain ⟨hN_a_1, i_a_1, j_a_1, q_a_1, hgo_a_1, hgc_a_1⟩ := hI x a_1 hf_a_1
    refine lv_astore_n (lv' := [(2, .ref a_1), (0, .ref d), (1, .int x)]) hx hb dX5_formulaAt_5 rfl hl (by decide) rfl (fun ls hl => ?_)
    refine lv_aload_n hx hb dX5_formulaAt_6 rfl (lv_at hl 0 rfl) ?_
    refine lv_ifnull hx hb dX5_formulaAt_7 ?_
    refine lv_aload_n hx hb dX5_formulaAt_10 rfl (lv_at hl 0 rfl) ?_
    have hP : va_P D vwCl ([(d, .inr (4, [.ref fa, .int fc, .int cc, .ref ma, .ref da, .int pr, .ref ba, .int bc, .int nc, .int lf, .int mi, .ref tr, .ref wk, .ref sd])), (fa, .inl (cF, 1000, .inr (.inr (.inr (.inr FA)))))] ++ po) H := hP
    have hD : va_D _ ([(d, .inr (4, [.ref fa, .int fc, .int cc, .ref ma, .ref da, .int pr, .ref ba, .int bc, .int nc, .int lf, .int mi, .ref tr, .ref wk, .ref sd])), (fa, .inl (cF, 1000, .inr (.inr (.inr (.inr FA)))))] ++ po) := hD
    refine ck_runP (wr := [(d, .inr (4, [.ref fa, .int fc, .int cc, .ref ma, .ref da, .int pr, .ref ba, .int bc, .int nc, .int lf, .int mi, .ref tr, .ref wk, .ref sd])), (fa, .inl (cF, 1000, .inr (.inr (.inr (.inr FA)))))]) (rx := fun _ => []) (pl1 := fun _ => po) (va_runV (C := RX2) (As := []) (rest := []) ⟨hx, hb, hml, hown, hts⟩ (c_isTerm l D H.size cR po j_a_1 i_a_1 a_1 q_a_1 ((FS x.toNatClampNeg).1) ((FS x.toNatClampNeg).2) (fm_whole (FS x.toNatClampNeg).2 (FS x.toNatClampNeg).1) ((fm (FS x.toNatClampNeg).2 (FS x.toNatClampNeg).1).2) hgo_a_1 hgc_a_1 hN_a_1) (cw_V (n := 0) hts tw_2_35 tw_2_36 tw_2_37 tw_1_4 tw_2_38 (by decide +kernel) ⟨by decide, by decide⟩) ⟨pre.blind, va_recv (q := (RX2, TX2, 3)) hK hP (ci := 1) (q0 := (i_a_1 + 2)) rfl hgo_a_1, fun U hU hW => ⟨rfl, pre.ofP (cx := []) (pl := po) (tysc := [(cR, .int)]) (tk := [0]) hP hD hK hS hA hE hZ [] (by decide) rfl rfl U hU hW⟩⟩ rfl rfl hl.1 rfl (lv_room (Nat.le_of_ble_eq_true rfl)) dX5_formulaAt_11 ⟨by decide, by decide⟩) hP hD hK hS hA (fun _ => rfl) [] [0, 1] rfl rfl (by decide) (by decide) (fun v u H locs hw hP hD hK9 hS => ?_)
    have hw : v = some (.int (k_term (((FS x.toNatClampNeg).2) ((0 : Int32).toNatClampNeg)))) := hw
    subst hw
    have hP : va_P D vwCl ([(d, .inr (4, [.ref fa, .int fc, .int cc, .ref ma, .ref da, .int pr, .ref ba, .int bc, .int nc, .int lf, .int mi, .ref tr, .ref wk, .ref sd])), (fa, .inl (cF, 1000, .inr (.inr (.inr (.inr FA)))))] ++ po) H := hP
    have hD : va_D _ ([(d, .inr (4, [.ref fa, .int fc, .int cc, .ref ma, .ref da, .int pr, .ref ba, .int bc, .int nc, .int lf, .int mi, .ref tr, .ref wk, .ref sd])), (fa, .inl (cF, 1000, .inr (.inr (.inr (.inr FA)))))] ++ po) := hD
    refine W.eq (g2 := F0 m 14 ls [.int (k_term (((FS x.toNatClampNeg).2) ((0 : Int32).toNatClampNeg)))]) rfl ?_
    refine lv_if_ne (tgt := 21) hx hb dX5_formulaAt_14 (by decide) (fun c_14 => ?_) (fun c_14 => ?_)
    · refine lv_null hx hb dX5_formulaAt_21 ?_
      exact ck_aret () hx hb hr (Or.inl ⟨_, rfl⟩) (Or.inl rfl) hlocks (congrArg some (show (.null : Value) = va_rf (q_at p_form x fc FA FS) from (by rw [q_at_no hf_a_1 (show p_form (FS x.toNatClampNeg) = 0 from by unfold p_form; rw [if_neg (q_at_form ho_1).2, if_neg c_14])]; rfl))) (hP.part [0, 1] rfl) (hK.sub [0, 1] rfl) (hD.part [0, 1] (by decide) rfl) hS (by decide) (by decide) dX5_formulaAt_22
    · refine lv_aload_n hx hb dX5_formulaAt_17 rfl (lv_at hl 0 rfl) ?_
      refine lv_goto (tgt := 22) hx hb dX5_formulaAt_18 (by decide) ?_
      exact ck_aret () hx hb hr (Or.inl ⟨_, rfl⟩) (Or.inr ⟨_, rfl⟩) hlocks (congrArg some (show (.ref a_1 : Value) = va_rf (q_at p_form x fc FA FS) from (by rw [q_at_yes hf_a_1 (show ¬ p_form (FS x.toNatClampNeg) = 0 from by unfold p_form; rw [if_neg (q_at_form ho_1).2, if_pos c_14]; decide)]; rfl))) (hP.part [0, 1] rfl) (hK.sub [0, 1] rfl) (hD.part [0, 1] (by decide) rfl) hS (by decide) (by decide) dX5_formulaAt_22
set_option maxHeartbeats 4000000 in
set_option maxRecDepth 100000 in
theorem c_closedAt (l : Launch) (D : va_G) (sz : Nat) (d fa ma da ba wk sd tr : Nat) (fc cc pr bc nc lf mi : Int32) (cF : ClassId) (FA : Nat → Option Nat) (cR : ClassId) (po : va_W) (FS : Nat → FR) (hI : fAll cR po fc FA FS) (x : Int32) : cM l yX5_closedAt (.code yX5_closedAt cX5_closedAt 3 (some (.object "ThesisDesk$Form"))) 18 550 0 0 [.ref d, .int x] D [(cR, .int), (cF, .object RX2)] ([(d, .inr (4, [.ref fa, .int fc, .int cc, .ref ma, .ref da, .int pr, .ref ba, .int bc, .int nc, .int lf, .int mi, .ref tr, .ref wk, .ref sd])), (fa, .inl (cF, 1000, .inr (.inr (.inr (.inr FA)))))] ++ po) sz (S := Unit) (fun v _ => v = some (va_rf (q_at p_closed x fc FA FS))) (fun _ => ([(d, .inr (4, [.ref fa, .int fc, .int cc, .ref ma, .ref da, .int pr, .ref ba, .int bc, .int nc, .int lf, .int mi, .ref tr, .ref wk, .ref sd])), (fa, .inl (cF, 1000, .inr (.inr (.inr (.inr FA)))))] ++ po)) (fun _ => [(cR, .int), (cF, .object RX2)]) := by
  refine cM_of (by decide) (Nat.le_of_ble_eq_true rfl) ?_
  intro p e s m below meth c ls hF hsz hP hK hD hE hZ hA hl
  obtain ⟨hx, hb, hr, hml, hown, hlocks, hnm, htb, hts⟩ := hF
  have hown : s.vm.findClass RX5 = some m.cls := hown
  have hl : lv_has ls 3 [(0, .ref d), (1, .int x)] := hl
  have hS : va_S (va_A ([(d, .inr (4, [.ref fa, .int fc, .int cc, .ref ma, .ref da, .int pr, .ref ba, .int bc, .int nc, .int lf, .int mi, .ref tr, .ref wk, .ref sd])), (fa, .inl (cF, 1000, .inr (.inr (.inr (.inr FA)))))] ++ po) sz) s.heap s.heap [] := va_S.rf
  refine lv_aload_n hx hb dX5_closedAt_0 rfl (lv_at hl 0 rfl) ?_
  refine lv_iload_n hx hb dX5_closedAt_1 rfl (lv_at hl 1 rfl) ?_
  have hP : va_P D vwCl ([(d, .inr (4, [.ref fa, .int fc, .int cc, .ref ma, .ref da, .int pr, .ref ba, .int bc, .int nc, .int lf, .int mi, .ref tr, .ref wk, .ref sd])), (fa, .inl (cF, 1000, .inr (.inr (.inr (.inr FA)))))] ++ po) s.heap := hP
  have hD : va_D _ ([(d, .inr (4, [.ref fa, .int fc, .int cc, .ref ma, .ref da, .int pr, .ref ba, .int bc, .int nc, .int lf, .int mi, .ref tr, .ref wk, .ref sd])), (fa, .inl (cF, 1000, .inr (.inr (.inr (.inr FA)))))] ++ po) := hD
  refine ck_runP (wr := []) (rx := fun _ => [(d, .inr (4, [.ref fa, .int fc, .int cc, .ref ma, .ref da, .int pr, .ref ba, .int bc, .int nc, .int lf, .int mi, .ref tr, .ref wk, .ref sd])), (fa, .inl (cF, 1000, .inr (.inr (.inr (.inr FA)))))]) (pl1 := fun _ => po) (va_runV (C := RX5) (As := [.int x]) (rest := []) ⟨hx, hb, hml, hown, hts⟩ (c_formulaAt l D s.heap.size d fa ma da ba wk sd tr fc cc pr bc nc lf mi cF FA cR po FS hI x) (cw_V (n := 1) hts tw_2_23 tw_2_25 tw_s1 tw_1_1 tw_2_26 (by decide +kernel) ⟨by decide, by decide⟩) ⟨pre.blind, va_recv (q := (RX5, TX5, 14)) hK hP (ci := 4) (q0 := 0) rfl rfl, fun U hU hW => ⟨rfl, pre.ofP (cx := [(d, .inr (4, [.ref fa, .int fc, .int cc, .ref ma, .ref da, .int pr, .ref ba, .int bc, .int nc, .int lf, .int mi, .ref tr, .ref wk, .ref sd])), (fa, .inl (cF, 1000, .inr (.inr (.inr (.inr FA)))))]) (pl := po) (tysc := [(cR, .int), (cF, .object RX2)]) (tk := [0, 1]) hP hD hK hS hA hE hZ [0, 1] (by decide) rfl rfl U hU hW⟩⟩ rfl rfl hl.1 rfl (lv_room (Nat.le_of_ble_eq_true rfl)) dX5_closedAt_2 ⟨by decide, by decide⟩) hP hD hK hS hA (fun _ => rfl) [0, 1] [] rfl rfl (by decide) (by decide) (fun v u H locs hw hP hD hK9 hS => ?_)
  have hw : v = some (va_rf (q_at p_form x fc FA FS)) := hw
  subst hw
  have hP : va_P D vwCl ([(d, .inr (4, [.ref fa, .int fc, .int cc, .ref ma, .ref da, .int pr, .ref ba, .int bc, .int nc, .int lf, .int mi, .ref tr, .ref wk, .ref sd])), (fa, .inl (cF, 1000, .inr (.inr (.inr (.inr FA)))))] ++ po) H := hP
  have hD : va_D _ ([(d, .inr (4, [.ref fa, .int fc, .int cc, .ref ma, .ref da, .int pr, .ref ba, .int bc, .int nc, .int lf, .int mi, .ref tr, .ref wk, .ref sd])), (fa, .inl (cF, 1000, .inr (.inr (.inr (.inr FA)))))] ++ po) := hD
  refine W.eq (g2 := F0 m 5 ls [va_rf (q_at p_form x fc FA FS)]) rfl ?_
  obtain ⟨op_1, ho_1⟩ : ∃ x9 : Option Nat, q_at p_form x fc FA FS = x9 := ⟨_, rfl⟩
  cases op_1 with
  | none =>
    refine W.eq (g2 := F0 m 5 ls [.null]) (by rw [ho_1] <;> rfl) ?_
    refine lv_astore_nN (lv' := [(2, .null), (0, .ref d), (1, .int x)]) hx hb dX5_closedAt_5 rfl hl (by decide) rfl (fun ls hl => ?_)
    refine lv_aload_nN hx hb dX5_closedAt_6 rfl (lv_at hl 0 rfl) ?_
    refine lv_ifnullN (tgt := 21) hx hb dX5_closedAt_7 (by decide) ?_
    refine lv_null hx hb dX5_closedAt_21 ?_
    exact ck_aret () hx hb hr (Or.inl ⟨_, rfl⟩) (Or.inl rfl) hlocks (congrArg some (show (.null : Value) = va_rf (q_at p_closed x fc FA FS) from (by rw [q_at_none ho_1 p_closed_0]; rfl))) (hP.part [0, 1] rfl) (hK.sub [0, 1] rfl) (hD.part [0, 1] (by decide) rfl) hS (by decide) (by decide) dX5_closedAt_22
  | some a_1 =>
    refine W.eq (g2 := F0 m 5 ls [.ref a_1]) (by rw [ho_1] <;> rfl) ?_
    have hf_a_1 : q_formAt x fc FA = some a_1 := (q_at_form ho_1).1
    obtain ⟨hN_a_1, i_a_1, j_a_1, q_a_1, hgo_a_1, hgc_a_1⟩ := hI x a_1 hf_a_1
    refine lv_astore_n (lv' := [(2, .ref a_1), (0, .ref d), (1, .int x)]) hx hb dX5_closedAt_5 rfl hl (by decide) rfl (fun ls hl => ?_)
    refine lv_aload_n hx hb dX5_closedAt_6 rfl (lv_at hl 0 rfl) ?_
    refine lv_ifnull hx hb dX5_closedAt_7 ?_
    refine lv_aload_n hx hb dX5_closedAt_10 rfl (lv_at hl 0 rfl) ?_
    refine va_getN (ci := 1) (v := .int ((fm (FS x.toNatClampNeg).2 (FS x.toNatClampNeg).1).2)) (C := RX2) (T := TX2) (N := 3) hx hb hts inG_X2 hown hK hP (i_a_1 + 2) hgo_a_1 rfl 2 (by decide) (hE.w tn_1_109 rfl) (fun _ h9 => h9) rfl dX5_closedAt_11 ?_
    refine lv_if_ne (tgt := 21) hx hb dX5_closedAt_14 (by decide) (fun c_14 => ?_) (fun c_14 => ?_)
    · refine lv_null hx hb dX5_closedAt_21 ?_
      exact ck_aret () hx hb hr (Or.inl ⟨_, rfl⟩) (Or.inl rfl) hlocks (congrArg some (show (.null : Value) = va_rf (q_at p_closed x fc FA FS) from (by rw [q_at_no hf_a_1 (show p_closed (FS x.toNatClampNeg) = 0 from by unfold p_closed; rw [if_neg (q_at_form ho_1).2, if_neg c_14])]; rfl))) (hP.part [0, 1] rfl) (hK.sub [0, 1] rfl) (hD.part [0, 1] (by decide) rfl) hS (by decide) (by decide) dX5_closedAt_22
    · refine lv_aload_n hx hb dX5_closedAt_17 rfl (lv_at hl 0 rfl) ?_
      refine lv_goto (tgt := 22) hx hb dX5_closedAt_18 (by decide) ?_
      exact ck_aret () hx hb hr (Or.inl ⟨_, rfl⟩) (Or.inr ⟨_, rfl⟩) hlocks (congrArg some (show (.ref a_1 : Value) = va_rf (q_at p_closed x fc FA FS) from (by rw [q_at_yes hf_a_1 (show ¬ p_closed (FS x.toNatClampNeg) = 0 from by unfold p_closed; rw [if_neg (q_at_form ho_1).2, if_pos c_14]; decide)]; rfl))) (hP.part [0, 1] rfl) (hK.sub [0, 1] rfl) (hD.part [0, 1] (by decide) rfl) hS (by decide) (by decide) dX5_closedAt_22
set_option maxHeartbeats 4000000 in
set_option maxRecDepth 100000 in
theorem c_termAt (l : Launch) (D : va_G) (sz : Nat) (d fa ma da ba wk sd tr : Nat) (fc cc pr bc nc lf mi : Int32) (cF : ClassId) (FA : Nat → Option Nat) (cR : ClassId) (po : va_W) (FS : Nat → FR) (hI : fAll cR po fc FA FS) (x : Int32) : cM l yX5_termAt (.code yX5_termAt cX5_termAt 3 (some (.object "ThesisDesk$Form"))) 16 480 0 0 [.ref d, .int x] D [(cR, .int), (cF, .object RX2)] ([(d, .inr (4, [.ref fa, .int fc, .int cc, .ref ma, .ref da, .int pr, .ref ba, .int bc, .int nc, .int lf, .int mi, .ref tr, .ref wk, .ref sd])), (fa, .inl (cF, 1000, .inr (.inr (.inr (.inr FA)))))] ++ po) sz (S := Unit) (fun v _ => v = some (va_rf (q_at p_term x fc FA FS))) (fun _ => ([(d, .inr (4, [.ref fa, .int fc, .int cc, .ref ma, .ref da, .int pr, .ref ba, .int bc, .int nc, .int lf, .int mi, .ref tr, .ref wk, .ref sd])), (fa, .inl (cF, 1000, .inr (.inr (.inr (.inr FA)))))] ++ po)) (fun _ => [(cR, .int), (cF, .object RX2)]) := by
  refine cM_of (by decide) (Nat.le_of_ble_eq_true rfl) ?_
  intro p e s m below meth c ls hF hsz hP hK hD hE hZ hA hl
  obtain ⟨hx, hb, hr, hml, hown, hlocks, hnm, htb, hts⟩ := hF
  have hown : s.vm.findClass RX5 = some m.cls := hown
  have hl : lv_has ls 3 [(0, .ref d), (1, .int x)] := hl
  have hS : va_S (va_A ([(d, .inr (4, [.ref fa, .int fc, .int cc, .ref ma, .ref da, .int pr, .ref ba, .int bc, .int nc, .int lf, .int mi, .ref tr, .ref wk, .ref sd])), (fa, .inl (cF, 1000, .inr (.inr (.inr (.inr FA)))))] ++ po) sz) s.heap s.heap [] := va_S.rf
  refine lv_aload_n hx hb dX5_termAt_0 rfl (lv_at hl 0 rfl) ?_
  refine lv_iload_n hx hb dX5_termAt_1 rfl (lv_at hl 1 rfl) ?_
  have hP : va_P D vwCl ([(d, .inr (4, [.ref fa, .int fc, .int cc, .ref ma, .ref da, .int pr, .ref ba, .int bc, .int nc, .int lf, .int mi, .ref tr, .ref wk, .ref sd])), (fa, .inl (cF, 1000, .inr (.inr (.inr (.inr FA)))))] ++ po) s.heap := hP
  have hD : va_D _ ([(d, .inr (4, [.ref fa, .int fc, .int cc, .ref ma, .ref da, .int pr, .ref ba, .int bc, .int nc, .int lf, .int mi, .ref tr, .ref wk, .ref sd])), (fa, .inl (cF, 1000, .inr (.inr (.inr (.inr FA)))))] ++ po) := hD
  refine ck_runP (wr := []) (rx := fun _ => [(d, .inr (4, [.ref fa, .int fc, .int cc, .ref ma, .ref da, .int pr, .ref ba, .int bc, .int nc, .int lf, .int mi, .ref tr, .ref wk, .ref sd])), (fa, .inl (cF, 1000, .inr (.inr (.inr (.inr FA)))))]) (pl1 := fun _ => po) (va_runV (C := RX5) (As := [.int x]) (rest := []) ⟨hx, hb, hml, hown, hts⟩ (c_wholeAt l D s.heap.size d fa ma da ba wk sd tr fc cc pr bc nc lf mi cF FA cR po FS hI x) (cw_V (n := 1) hts tw_2_27 tw_2_29 tw_s2 tw_1_1 tw_2_30 (by decide +kernel) ⟨by decide, by decide⟩) ⟨pre.blind, va_recv (q := (RX5, TX5, 14)) hK hP (ci := 4) (q0 := 0) rfl rfl, fun U hU hW => ⟨rfl, pre.ofP (cx := [(d, .inr (4, [.ref fa, .int fc, .int cc, .ref ma, .ref da, .int pr, .ref ba, .int bc, .int nc, .int lf, .int mi, .ref tr, .ref wk, .ref sd])), (fa, .inl (cF, 1000, .inr (.inr (.inr (.inr FA)))))]) (pl := po) (tysc := [(cR, .int), (cF, .object RX2)]) (tk := [0, 1]) hP hD hK hS hA hE hZ [0, 1] (by decide) rfl rfl U hU hW⟩⟩ rfl rfl hl.1 rfl (lv_room (Nat.le_of_ble_eq_true rfl)) dX5_termAt_2 ⟨by decide, by decide⟩) hP hD hK hS hA (fun _ => rfl) [0, 1] [] rfl rfl (by decide) (by decide) (fun v u H locs hw hP hD hK9 hS => ?_)
  have hw : v = some (va_rf (q_at p_whole x fc FA FS)) := hw
  subst hw
  have hP : va_P D vwCl ([(d, .inr (4, [.ref fa, .int fc, .int cc, .ref ma, .ref da, .int pr, .ref ba, .int bc, .int nc, .int lf, .int mi, .ref tr, .ref wk, .ref sd])), (fa, .inl (cF, 1000, .inr (.inr (.inr (.inr FA)))))] ++ po) H := hP
  have hD : va_D _ ([(d, .inr (4, [.ref fa, .int fc, .int cc, .ref ma, .ref da, .int pr, .ref ba, .int bc, .int nc, .int lf, .int mi, .ref tr, .ref wk, .ref sd])), (fa, .inl (cF, 1000, .inr (.inr (.inr (.inr FA)))))] ++ po) := hD
  refine W.eq (g2 := F0 m 5 ls [va_rf (q_at p_whole x fc FA FS)]) rfl ?_
  obtain ⟨op_1, ho_1⟩ : ∃ x9 : Option Nat, q_at p_whole x fc FA FS = x9 := ⟨_, rfl⟩
  cases op_1 with
  | none =>
    refine W.eq (g2 := F0 m 5 ls [.null]) (by rw [ho_1] <;> rfl) ?_
    refine lv_astore_nN (lv' := [(2, .null), (0, .ref d), (1, .int x)]) hx hb dX5_termAt_5 rfl hl (by decide) rfl (fun ls hl => ?_)
    refine lv_aload_nN hx hb dX5_termAt_6 rfl (lv_at hl 0 rfl) ?_
    refine lv_ifnullN (tgt := 21) hx hb dX5_termAt_7 (by decide) ?_
    refine lv_null hx hb dX5_termAt_21 ?_
    exact ck_aret () hx hb hr (Or.inl ⟨_, rfl⟩) (Or.inl rfl) hlocks (congrArg some (show (.null : Value) = va_rf (q_at p_term x fc FA FS) from (by rw [q_at_none ho_1 p_term_0]; rfl))) (hP.part [0, 1] rfl) (hK.sub [0, 1] rfl) (hD.part [0, 1] (by decide) rfl) hS (by decide) (by decide) dX5_termAt_22
  | some a_1 =>
    refine W.eq (g2 := F0 m 5 ls [.ref a_1]) (by rw [ho_1] <;> rfl) ?_
    have hf_a_1 : q_formAt x fc FA = some a_1 := (q_at_form ho_1).1
    obtain ⟨hN_a_1, i_a_1, j_a_1, q_a_1, hgo_a_1, hgc_a_1⟩ := hI x a_1 hf_a_1
    refine lv_astore_n (lv' := [(2, .ref a_1), (0, .ref d), (1, .int x)]) hx hb dX5_termAt_5 rfl hl (by decide) rfl (fun ls hl => ?_)
    refine lv_aload_n hx hb dX5_termAt_6 rfl (lv_at hl 0 rfl) ?_
    refine lv_ifnull hx hb dX5_termAt_7 ?_
    refine lv_aload_n hx hb dX5_termAt_10 rfl (lv_at hl 0 rfl) ?_
    have hP : va_P D vwCl ([(d, .inr (4, [.ref fa, .int fc, .int cc, .ref ma, .ref da, .int pr, .ref ba, .int bc, .int nc, .int lf, .int mi, .ref tr, .ref wk, .ref sd])), (fa, .inl (cF, 1000, .inr (.inr (.inr (.inr FA)))))] ++ po) H := hP
    have hD : va_D _ ([(d, .inr (4, [.ref fa, .int fc, .int cc, .ref ma, .ref da, .int pr, .ref ba, .int bc, .int nc, .int lf, .int mi, .ref tr, .ref wk, .ref sd])), (fa, .inl (cF, 1000, .inr (.inr (.inr (.inr FA)))))] ++ po) := hD
    refine ck_runP (wr := [(d, .inr (4, [.ref fa, .int fc, .int cc, .ref ma, .ref da, .int pr, .ref ba, .int bc, .int nc, .int lf, .int mi, .ref tr, .ref wk, .ref sd])), (fa, .inl (cF, 1000, .inr (.inr (.inr (.inr FA)))))]) (rx := fun _ => []) (pl1 := fun _ => po) (va_runV (C := RX2) (As := []) (rest := []) ⟨hx, hb, hml, hown, hts⟩ (c_isTerm l D H.size cR po j_a_1 i_a_1 a_1 q_a_1 ((FS x.toNatClampNeg).1) ((FS x.toNatClampNeg).2) (fm_whole (FS x.toNatClampNeg).2 (FS x.toNatClampNeg).1) ((fm (FS x.toNatClampNeg).2 (FS x.toNatClampNeg).1).2) hgo_a_1 hgc_a_1 hN_a_1) (cw_V (n := 0) hts tw_2_35 tw_2_36 tw_2_37 tw_1_4 tw_2_38 (by decide +kernel) ⟨by decide, by decide⟩) ⟨pre.blind, va_recv (q := (RX2, TX2, 3)) hK hP (ci := 1) (q0 := (i_a_1 + 2)) rfl hgo_a_1, fun U hU hW => ⟨rfl, pre.ofP (cx := []) (pl := po) (tysc := [(cR, .int)]) (tk := [0]) hP hD hK hS hA hE hZ [] (by decide) rfl rfl U hU hW⟩⟩ rfl rfl hl.1 rfl (lv_room (Nat.le_of_ble_eq_true rfl)) dX5_termAt_11 ⟨by decide, by decide⟩) hP hD hK hS hA (fun _ => rfl) [] [0, 1] rfl rfl (by decide) (by decide) (fun v u H locs hw hP hD hK9 hS => ?_)
    have hw : v = some (.int (k_term (((FS x.toNatClampNeg).2) ((0 : Int32).toNatClampNeg)))) := hw
    subst hw
    have hP : va_P D vwCl ([(d, .inr (4, [.ref fa, .int fc, .int cc, .ref ma, .ref da, .int pr, .ref ba, .int bc, .int nc, .int lf, .int mi, .ref tr, .ref wk, .ref sd])), (fa, .inl (cF, 1000, .inr (.inr (.inr (.inr FA)))))] ++ po) H := hP
    have hD : va_D _ ([(d, .inr (4, [.ref fa, .int fc, .int cc, .ref ma, .ref da, .int pr, .ref ba, .int bc, .int nc, .int lf, .int mi, .ref tr, .ref wk, .ref sd])), (fa, .inl (cF, 1000, .inr (.inr (.inr (.inr FA)))))] ++ po) := hD
    refine W.eq (g2 := F0 m 14 ls [.int (k_term (((FS x.toNatClampNeg).2) ((0 : Int32).toNatClampNeg)))]) rfl ?_
    refine lv_if_eq (tgt := 21) hx hb dX5_termAt_14 (by decide) (fun c_14 => ?_) (fun c_14 => ?_)
    · refine lv_null hx hb dX5_termAt_21 ?_
      exact ck_aret () hx hb hr (Or.inl ⟨_, rfl⟩) (Or.inl rfl) hlocks (congrArg some (show (.null : Value) = va_rf (q_at p_term x fc FA FS) from (by rw [q_at_no hf_a_1 (show p_term (FS x.toNatClampNeg) = 0 from by unfold p_term; rw [if_neg (q_at_form ho_1).2]; exact c_14)]; rfl))) (hP.part [0, 1] rfl) (hK.sub [0, 1] rfl) (hD.part [0, 1] (by decide) rfl) hS (by decide) (by decide) dX5_termAt_22
    · refine lv_aload_n hx hb dX5_termAt_17 rfl (lv_at hl 0 rfl) ?_
      refine lv_goto (tgt := 22) hx hb dX5_termAt_18 (by decide) ?_
      exact ck_aret () hx hb hr (Or.inl ⟨_, rfl⟩) (Or.inr ⟨_, rfl⟩) hlocks (congrArg some (show (.ref a_1 : Value) = va_rf (q_at p_term x fc FA FS) from (by rw [q_at_yes hf_a_1 (show ¬ p_term (FS x.toNatClampNeg) = 0 from by unfold p_term; rw [if_neg (q_at_form ho_1).2]; exact c_14)]; rfl))) (hP.part [0, 1] rfl) (hK.sub [0, 1] rfl) (hD.part [0, 1] (by decide) rfl) hS (by decide) (by decide) dX5_termAt_22
set_option maxHeartbeats 4000000 in
set_option maxRecDepth 100000 in
theorem c_constAt (l : Launch) (D : va_G) (sz : Nat) (d fa ma da ba wk sd tr : Nat) (fc cc pr bc nc lf mi : Int32) (cF : ClassId) (FA : Nat → Option Nat) (cR : ClassId) (po : va_W) (FS : Nat → FR) (hI : fAll cR po fc FA FS) (x : Int32) : cM l yX5_constantAt (.code yX5_constantAt cX5_constantAt 3 (some .int)) 12 340 0 0 [.ref d, .int x] D [(cR, .int), (cF, .object RX2)] ([(d, .inr (4, [.ref fa, .int fc, .int cc, .ref ma, .ref da, .int pr, .ref ba, .int bc, .int nc, .int lf, .int mi, .ref tr, .ref wk, .ref sd])), (fa, .inl (cF, 1000, .inr (.inr (.inr (.inr FA)))))] ++ po) sz (S := Unit) (fun v _ => v = some (.int (q_const x fc FA FS))) (fun _ => ([(d, .inr (4, [.ref fa, .int fc, .int cc, .ref ma, .ref da, .int pr, .ref ba, .int bc, .int nc, .int lf, .int mi, .ref tr, .ref wk, .ref sd])), (fa, .inl (cF, 1000, .inr (.inr (.inr (.inr FA)))))] ++ po)) (fun _ => [(cR, .int), (cF, .object RX2)]) := by
  refine cM_of (by decide) (Nat.le_of_ble_eq_true rfl) ?_
  intro p e s m below meth c ls hF hsz hP hK hD hE hZ hA hl
  obtain ⟨hx, hb, hr, hml, hown, hlocks, hnm, htb, hts⟩ := hF
  have hown : s.vm.findClass RX5 = some m.cls := hown
  have hl : lv_has ls 3 [(0, .ref d), (1, .int x)] := hl
  have hS : va_S (va_A ([(d, .inr (4, [.ref fa, .int fc, .int cc, .ref ma, .ref da, .int pr, .ref ba, .int bc, .int nc, .int lf, .int mi, .ref tr, .ref wk, .ref sd])), (fa, .inl (cF, 1000, .inr (.inr (.inr (.inr FA)))))] ++ po) sz) s.heap s.heap [] := va_S.rf
  refine lv_aload_n hx hb dX5_constantAt_0 rfl (lv_at hl 0 rfl) ?_
  refine lv_iload_n hx hb dX5_constantAt_1 rfl (lv_at hl 1 rfl) ?_
  refine ck_runQ (wr := []) (va_runV (C := RX5) (As := [.int x]) (rest := []) ⟨hx, hb, hml, hown, hts⟩ (c_formAt l D s.heap.size d fa ma da ba wk sd tr fc cc pr bc nc lf mi cF FA x) (cw_V (n := 1) hts tw_2_31 tw_2_33 tw_s3 tw_1_1 tw_2_34 (by decide +kernel) ⟨by decide, by decide⟩) ⟨pre.blind, va_recv (q := (RX5, TX5, 14)) hK hP (ci := 4) (q0 := 0) rfl rfl, fun U hU hW => ⟨rfl, pre.of (wc := [(d, .inr (4, [.ref fa, .int fc, .int cc, .ref ma, .ref da, .int pr, .ref ba, .int bc, .int nc, .int lf, .int mi, .ref tr, .ref wk, .ref sd])), (fa, .inl (cF, 1000, .inr (.inr (.inr (.inr FA)))))]) (tysc := [(cF, .object RX2)]) (tk := [1]) hP.left hD.left hK hS hA hE hZ [0, 1] (by decide) rfl rfl rfl U hU hW⟩⟩ rfl rfl hl.1 rfl (lv_room (Nat.le_of_ble_eq_true rfl)) dX5_constantAt_2 ⟨by decide, by decide⟩) hP hD hK hS hA [0, 1] [] rfl rfl (by decide) (by decide) (fun v u H locs hw hP hD hK9 hS => ?_)
  have hw : v = some (va_rf (q_formAt x fc FA)) := hw
  subst hw
  have hP : va_P D vwCl ([(d, .inr (4, [.ref fa, .int fc, .int cc, .ref ma, .ref da, .int pr, .ref ba, .int bc, .int nc, .int lf, .int mi, .ref tr, .ref wk, .ref sd])), (fa, .inl (cF, 1000, .inr (.inr (.inr (.inr FA)))))] ++ po) H := hP
  have hD : va_D _ ([(d, .inr (4, [.ref fa, .int fc, .int cc, .ref ma, .ref da, .int pr, .ref ba, .int bc, .int nc, .int lf, .int mi, .ref tr, .ref wk, .ref sd])), (fa, .inl (cF, 1000, .inr (.inr (.inr (.inr FA)))))] ++ po) := hD
  refine W.eq (g2 := F0 m 5 ls [va_rf (q_formAt x fc FA)]) rfl ?_
  obtain ⟨op_1, ho_1⟩ : ∃ x9 : Option Nat, q_formAt x fc FA = x9 := ⟨_, rfl⟩
  cases op_1 with
  | none =>
    refine W.eq (g2 := F0 m 5 ls [.null]) (by rw [ho_1] <;> rfl) ?_
    refine lv_astore_nN (lv' := [(2, .null), (0, .ref d), (1, .int x)]) hx hb dX5_constantAt_5 rfl hl (by decide) rfl (fun ls hl => ?_)
    refine lv_aload_nN hx hb dX5_constantAt_6 rfl (lv_at hl 0 rfl) ?_
    refine lv_ifnullN (tgt := 27) hx hb dX5_constantAt_7 (by decide) ?_
    refine lv_iconst (v := (-1)) hx hb dX5_constantAt_27 (by decide) ?_
    exact ck_iret () hx hb hr rfl hlocks (congrArg (fun z9 => some (Value.int z9)) (show ((-1) : Int32) = q_const x fc FA FS from (by unfold q_const; rw [ho_1]; rfl))) (hP.part [0, 1] rfl) (hK.sub [0, 1] rfl) (hD.part [0, 1] (by decide) rfl) hS (by decide) (by decide) dX5_constantAt_28
  | some a_1 =>
    refine W.eq (g2 := F0 m 5 ls [.ref a_1]) (by rw [ho_1] <;> rfl) ?_
    have hf_a_1 : q_formAt x fc FA = some a_1 := ho_1
    obtain ⟨hN_a_1, i_a_1, j_a_1, q_a_1, hgo_a_1, hgc_a_1⟩ := hI x a_1 hf_a_1
    refine lv_astore_n (lv' := [(2, .ref a_1), (0, .ref d), (1, .int x)]) hx hb dX5_constantAt_5 rfl hl (by decide) rfl (fun ls hl => ?_)
    refine lv_aload_n hx hb dX5_constantAt_6 rfl (lv_at hl 0 rfl) ?_
    refine lv_ifnull hx hb dX5_constantAt_7 ?_
    refine lv_aload_n hx hb dX5_constantAt_10 rfl (lv_at hl 0 rfl) ?_
    have hP : va_P D vwCl ([(d, .inr (4, [.ref fa, .int fc, .int cc, .ref ma, .ref da, .int pr, .ref ba, .int bc, .int nc, .int lf, .int mi, .ref tr, .ref wk, .ref sd])), (fa, .inl (cF, 1000, .inr (.inr (.inr (.inr FA)))))] ++ po) H := hP
    have hD : va_D _ ([(d, .inr (4, [.ref fa, .int fc, .int cc, .ref ma, .ref da, .int pr, .ref ba, .int bc, .int nc, .int lf, .int mi, .ref tr, .ref wk, .ref sd])), (fa, .inl (cF, 1000, .inr (.inr (.inr (.inr FA)))))] ++ po) := hD
    refine ck_runP (wr := [(d, .inr (4, [.ref fa, .int fc, .int cc, .ref ma, .ref da, .int pr, .ref ba, .int bc, .int nc, .int lf, .int mi, .ref tr, .ref wk, .ref sd])), (fa, .inl (cF, 1000, .inr (.inr (.inr (.inr FA)))))]) (rx := fun _ => []) (pl1 := fun _ => po) (va_runV (C := RX2) (As := []) (rest := []) ⟨hx, hb, hml, hown, hts⟩ (c_head l D H.size cR po j_a_1 i_a_1 a_1 q_a_1 ((FS x.toNatClampNeg).1) ((FS x.toNatClampNeg).2) (fm_whole (FS x.toNatClampNeg).2 (FS x.toNatClampNeg).1) ((fm (FS x.toNatClampNeg).2 (FS x.toNatClampNeg).1).2) hgo_a_1 hgc_a_1 hN_a_1) (cw_V (n := 0) hts tw_2_109 tw_2_40 tw_2_41 tw_1_4 tw_2_42 (by decide +kernel) ⟨by decide, by decide⟩) ⟨pre.blind, va_recv (q := (RX2, TX2, 3)) hK hP (ci := 1) (q0 := (i_a_1 + 2)) rfl hgo_a_1, fun U hU hW => ⟨rfl, pre.ofP (cx := []) (pl := po) (tysc := [(cR, .int)]) (tk := [0]) hP hD hK hS hA hE hZ [] (by decide) rfl rfl U hU hW⟩⟩ rfl rfl hl.1 rfl (lv_room (Nat.le_of_ble_eq_true rfl)) dX5_constantAt_11 ⟨by decide, by decide⟩) hP hD hK hS hA (fun _ => rfl) [] [0, 1] rfl rfl (by decide) (by decide) (fun v u H locs hw hP hD hK9 hS => ?_)
    have hw : v = some (.int (((FS x.toNatClampNeg).2) ((0 : Int32).toNatClampNeg))) := hw
    subst hw
    have hP : va_P D vwCl ([(d, .inr (4, [.ref fa, .int fc, .int cc, .ref ma, .ref da, .int pr, .ref ba, .int bc, .int nc, .int lf, .int mi, .ref tr, .ref wk, .ref sd])), (fa, .inl (cF, 1000, .inr (.inr (.inr (.inr FA)))))] ++ po) H := hP
    have hD : va_D _ ([(d, .inr (4, [.ref fa, .int fc, .int cc, .ref ma, .ref da, .int pr, .ref ba, .int bc, .int nc, .int lf, .int mi, .ref tr, .ref wk, .ref sd])), (fa, .inl (cF, 1000, .inr (.inr (.inr (.inr FA)))))] ++ po) := hD
    refine W.eq (g2 := F0 m 14 ls [.int (((FS x.toNatClampNeg).2) ((0 : Int32).toNatClampNeg))]) rfl ?_
    refine ck_runQ (wr := [(d, .inr (4, [.ref fa, .int fc, .int cc, .ref ma, .ref da, .int pr, .ref ba, .int bc, .int nc, .int lf, .int mi, .ref tr, .ref wk, .ref sd])), (fa, .inl (cF, 1000, .inr (.inr (.inr (.inr FA)))))]) (va_runS (As := [.int (((FS x.toNatClampNeg).2) ((0 : Int32).toNatClampNeg))]) (rest := []) ⟨hx, hb, hml, hown, hts⟩ (c_kind l D H.size (((FS x.toNatClampNeg).2) ((0 : Int32).toNatClampNeg))) (cw_S (n := 1) hts tw_2_210 tw_1_101 tw_1_8 tw_1_102 (by decide +kernel) ⟨by decide, by decide⟩) ⟨pre.blind, fun U hU hW => ⟨rfl, pre.of (wc := []) (tysc := []) (tk := []) hP.left hD.left hK hS hA hE hZ [] (by decide) rfl rfl rfl U hU hW⟩⟩ rfl rfl hl.1 rfl (lv_room (Nat.le_of_ble_eq_true rfl)) dX5_constantAt_14 ⟨by decide, by decide⟩) hP hD hK hS hA [] [0, 1] rfl rfl (by decide) (by decide) (fun v u H locs hw hP hD hK9 hS => ?_)
    have hw : v = some (.int ((((FS x.toNatClampNeg).2) ((0 : Int32).toNatClampNeg)) &&& 15)) := hw
    subst hw
    have hP : va_P D vwCl ([(d, .inr (4, [.ref fa, .int fc, .int cc, .ref ma, .ref da, .int pr, .ref ba, .int bc, .int nc, .int lf, .int mi, .ref tr, .ref wk, .ref sd])), (fa, .inl (cF, 1000, .inr (.inr (.inr (.inr FA)))))] ++ po) H := hP
    have hD : va_D _ ([(d, .inr (4, [.ref fa, .int fc, .int cc, .ref ma, .ref da, .int pr, .ref ba, .int bc, .int nc, .int lf, .int mi, .ref tr, .ref wk, .ref sd])), (fa, .inl (cF, 1000, .inr (.inr (.inr (.inr FA)))))] ++ po) := hD
    refine W.eq (g2 := F0 m 17 ls [.int ((((FS x.toNatClampNeg).2) ((0 : Int32).toNatClampNeg)) &&& 15)]) rfl ?_
    refine lv_if_ne (tgt := 27) hx hb dX5_constantAt_17 (by decide) (fun c_17 => ?_) (fun c_17 => ?_)
    · refine lv_iconst (v := (-1)) hx hb dX5_constantAt_27 (by decide) ?_
      exact ck_iret () hx hb hr rfl hlocks (congrArg (fun z9 => some (Value.int z9)) (show ((-1) : Int32) = q_const x fc FA FS from (by unfold q_const; rw [ho_1]; show _ = ite _ _ _; rw [if_neg c_17]))) (hP.part [0, 1] rfl) (hK.sub [0, 1] rfl) (hD.part [0, 1] (by decide) rfl) hS (by decide) (by decide) dX5_constantAt_28
    · refine lv_aload_n hx hb dX5_constantAt_20 rfl (lv_at hl 0 rfl) ?_
      have hP : va_P D vwCl ([(d, .inr (4, [.ref fa, .int fc, .int cc, .ref ma, .ref da, .int pr, .ref ba, .int bc, .int nc, .int lf, .int mi, .ref tr, .ref wk, .ref sd])), (fa, .inl (cF, 1000, .inr (.inr (.inr (.inr FA)))))] ++ po) H := hP
      have hD : va_D _ ([(d, .inr (4, [.ref fa, .int fc, .int cc, .ref ma, .ref da, .int pr, .ref ba, .int bc, .int nc, .int lf, .int mi, .ref tr, .ref wk, .ref sd])), (fa, .inl (cF, 1000, .inr (.inr (.inr (.inr FA)))))] ++ po) := hD
      refine ck_runP (wr := [(d, .inr (4, [.ref fa, .int fc, .int cc, .ref ma, .ref da, .int pr, .ref ba, .int bc, .int nc, .int lf, .int mi, .ref tr, .ref wk, .ref sd])), (fa, .inl (cF, 1000, .inr (.inr (.inr (.inr FA)))))]) (rx := fun _ => []) (pl1 := fun _ => po) (va_runV (C := RX2) (As := []) (rest := []) ⟨hx, hb, hml, hown, hts⟩ (c_head l D H.size cR po j_a_1 i_a_1 a_1 q_a_1 ((FS x.toNatClampNeg).1) ((FS x.toNatClampNeg).2) (fm_whole (FS x.toNatClampNeg).2 (FS x.toNatClampNeg).1) ((fm (FS x.toNatClampNeg).2 (FS x.toNatClampNeg).1).2) hgo_a_1 hgc_a_1 hN_a_1) (cw_V (n := 0) hts tw_2_109 tw_2_40 tw_2_41 tw_1_4 tw_2_42 (by decide +kernel) ⟨by decide, by decide⟩) ⟨pre.blind, va_recv (q := (RX2, TX2, 3)) hK hP (ci := 1) (q0 := (i_a_1 + 2)) rfl hgo_a_1, fun U hU hW => ⟨rfl, pre.ofP (cx := []) (pl := po) (tysc := [(cR, .int)]) (tk := [0]) hP hD hK hS hA hE hZ [] (by decide) rfl rfl U hU hW⟩⟩ rfl rfl hl.1 rfl (lv_room (Nat.le_of_ble_eq_true rfl)) dX5_constantAt_21 ⟨by decide, by decide⟩) hP hD hK hS hA (fun _ => rfl) [] [0, 1] rfl rfl (by decide) (by decide) (fun v u H locs hw hP hD hK9 hS => ?_)
      have hw : v = some (.int (((FS x.toNatClampNeg).2) ((0 : Int32).toNatClampNeg))) := hw
      subst hw
      have hP : va_P D vwCl ([(d, .inr (4, [.ref fa, .int fc, .int cc, .ref ma, .ref da, .int pr, .ref ba, .int bc, .int nc, .int lf, .int mi, .ref tr, .ref wk, .ref sd])), (fa, .inl (cF, 1000, .inr (.inr (.inr (.inr FA)))))] ++ po) H := hP
      have hD : va_D _ ([(d, .inr (4, [.ref fa, .int fc, .int cc, .ref ma, .ref da, .int pr, .ref ba, .int bc, .int nc, .int lf, .int mi, .ref tr, .ref wk, .ref sd])), (fa, .inl (cF, 1000, .inr (.inr (.inr (.inr FA)))))] ++ po) := hD
      refine W.eq (g2 := F0 m 24 ls [.int (((FS x.toNatClampNeg).2) ((0 : Int32).toNatClampNeg))]) rfl ?_
      refine lv_goto (tgt := 28) hx hb dX5_constantAt_24 (by decide) ?_
      exact ck_iret () hx hb hr rfl hlocks (congrArg (fun z9 => some (Value.int z9)) (show (((FS x.toNatClampNeg).2) ((0 : Int32).toNatClampNeg) : Int32) = q_const x fc FA FS from (by unfold q_const; rw [ho_1]; show _ = ite _ _ _; rw [if_pos c_17]))) (hP.part [0, 1] rfl) (hK.sub [0, 1] rfl) (hD.part [0, 1] (by decide) rfl) hS (by decide) (by decide) dX5_constantAt_28
set_option maxHeartbeats 4000000 in
set_option maxRecDepth 100000 in
theorem c_termOr (l : Launch) (D : va_G) (sz : Nat) (d fa ma da ba wk sd tr : Nat) (fc cc pr bc nc lf mi : Int32) (cF : ClassId) (FA : Nat → Option Nat) (cR : ClassId) (po : va_W) (FS : Nat → FR) (hI : fAll cR po fc FA FS) (x : Int32) (b : Int32) : cM l yX5_isTermOrNone (.code yX5_isTermOrNone cX5_isTermOrNone 3 (some .boolean)) 18 550 0 0 [.ref d, .int x, .int b] D [(cR, .int), (cF, .object RX2)] ([(d, .inr (4, [.ref fa, .int fc, .int cc, .ref ma, .ref da, .int pr, .ref ba, .int bc, .int nc, .int lf, .int mi, .ref tr, .ref wk, .ref sd])), (fa, .inl (cF, 1000, .inr (.inr (.inr (.inr FA)))))] ++ po) sz (S := Unit) (fun v _ => v = some (.int (q_orNone p_term x b fc FA FS))) (fun _ => ([(d, .inr (4, [.ref fa, .int fc, .int cc, .ref ma, .ref da, .int pr, .ref ba, .int bc, .int nc, .int lf, .int mi, .ref tr, .ref wk, .ref sd])), (fa, .inl (cF, 1000, .inr (.inr (.inr (.inr FA)))))] ++ po)) (fun _ => [(cR, .int), (cF, .object RX2)]) := by
  refine cM_of (by decide) (Nat.le_of_ble_eq_true rfl) ?_
  intro p e s m below meth c ls hF hsz hP hK hD hE hZ hA hl
  obtain ⟨hx, hb, hr, hml, hown, hlocks, hnm, htb, hts⟩ := hF
  have hown : s.vm.findClass RX5 = some m.cls := hown
  have hl : lv_has ls 3 [(0, .ref d), (1, .int x), (2, .int b)] := hl
  have hS : va_S (va_A ([(d, .inr (4, [.ref fa, .int fc, .int cc, .ref ma, .ref da, .int pr, .ref ba, .int bc, .int nc, .int lf, .int mi, .ref tr, .ref wk, .ref sd])), (fa, .inl (cF, 1000, .inr (.inr (.inr (.inr FA)))))] ++ po) sz) s.heap s.heap [] := va_S.rf
  refine lv_iload_n hx hb dX5_isTermOrNone_0 rfl (lv_at hl 2 rfl) ?_
  refine lv_if_eq (tgt := 20) hx hb dX5_isTermOrNone_1 (by decide) (fun c_1 => ?_) (fun c_1 => ?_)
  · refine lv_iload_n hx hb dX5_isTermOrNone_20 rfl (lv_at hl 1 rfl) ?_
    refine lv_iconst (v := (-1)) hx hb dX5_isTermOrNone_21 (by decide) ?_
    refine lv_icmp_ne (tgt := 29) hx hb dX5_isTermOrNone_22 (by decide) (fun c_22 => ?_) (fun c_22 => ?_)
    · refine lv_iconst (v := 0) hx hb dX5_isTermOrNone_29 (by decide) ?_
      exact ck_iret () hx hb hr rfl hlocks (congrArg (fun z9 => some (Value.int z9)) (show (0 : Int32) = q_orNone p_term x b fc FA FS from (by unfold q_orNone; rw [if_pos c_1, if_neg c_22]))) (hP.part [0, 1] rfl) (hK.sub [0, 1] rfl) (hD.part [0, 1] (by decide) rfl) hS (by decide) (by decide) dX5_isTermOrNone_30
    · refine lv_iconst (v := 1) hx hb dX5_isTermOrNone_25 (by decide) ?_
      refine lv_goto (tgt := 30) hx hb dX5_isTermOrNone_26 (by decide) ?_
      exact ck_iret () hx hb hr rfl hlocks (congrArg (fun z9 => some (Value.int z9)) (show (1 : Int32) = q_orNone p_term x b fc FA FS from (by unfold q_orNone; rw [if_pos c_1, if_pos c_22]))) (hP.part [0, 1] rfl) (hK.sub [0, 1] rfl) (hD.part [0, 1] (by decide) rfl) hS (by decide) (by decide) dX5_isTermOrNone_30
  · refine lv_aload_n hx hb dX5_isTermOrNone_4 rfl (lv_at hl 0 rfl) ?_
    refine lv_iload_n hx hb dX5_isTermOrNone_5 rfl (lv_at hl 1 rfl) ?_
    have hP : va_P D vwCl ([(d, .inr (4, [.ref fa, .int fc, .int cc, .ref ma, .ref da, .int pr, .ref ba, .int bc, .int nc, .int lf, .int mi, .ref tr, .ref wk, .ref sd])), (fa, .inl (cF, 1000, .inr (.inr (.inr (.inr FA)))))] ++ po) s.heap := hP
    have hD : va_D _ ([(d, .inr (4, [.ref fa, .int fc, .int cc, .ref ma, .ref da, .int pr, .ref ba, .int bc, .int nc, .int lf, .int mi, .ref tr, .ref wk, .ref sd])), (fa, .inl (cF, 1000, .inr (.inr (.inr (.inr FA)))))] ++ po) := hD
    refine ck_runP (wr := []) (rx := fun _ => [(d, .inr (4, [.ref fa, .int fc, .int cc, .ref ma, .ref da, .int pr, .ref ba, .int bc, .int nc, .int lf, .int mi, .ref tr, .ref wk, .ref sd])), (fa, .inl (cF, 1000, .inr (.inr (.inr (.inr FA)))))]) (pl1 := fun _ => po) (va_runV (C := RX5) (As := [.int x]) (rest := []) ⟨hx, hb, hml, hown, hts⟩ (c_termAt l D s.heap.size d fa ma da ba wk sd tr fc cc pr bc nc lf mi cF FA cR po FS hI x) (cw_V (n := 1) hts tw_2_96 tw_2_98 tw_s8 tw_1_1 tw_2_99 (by decide +kernel) ⟨by decide, by decide⟩) ⟨pre.blind, va_recv (q := (RX5, TX5, 14)) hK hP (ci := 4) (q0 := 0) rfl rfl, fun U hU hW => ⟨rfl, pre.ofP (cx := [(d, .inr (4, [.ref fa, .int fc, .int cc, .ref ma, .ref da, .int pr, .ref ba, .int bc, .int nc, .int lf, .int mi, .ref tr, .ref wk, .ref sd])), (fa, .inl (cF, 1000, .inr (.inr (.inr (.inr FA)))))]) (pl := po) (tysc := [(cR, .int), (cF, .object RX2)]) (tk := [0, 1]) hP hD hK hS hA hE hZ [0, 1] (by decide) rfl rfl U hU hW⟩⟩ rfl rfl hl.1 rfl (lv_room (Nat.le_of_ble_eq_true rfl)) dX5_isTermOrNone_6 ⟨by decide, by decide⟩) hP hD hK hS hA (fun _ => rfl) [0, 1] [] rfl rfl (by decide) (by decide) (fun v u H locs hw hP hD hK9 hS => ?_)
    have hw : v = some (va_rf (q_at p_term x fc FA FS)) := hw
    subst hw
    have hP : va_P D vwCl ([(d, .inr (4, [.ref fa, .int fc, .int cc, .ref ma, .ref da, .int pr, .ref ba, .int bc, .int nc, .int lf, .int mi, .ref tr, .ref wk, .ref sd])), (fa, .inl (cF, 1000, .inr (.inr (.inr (.inr FA)))))] ++ po) H := hP
    have hD : va_D _ ([(d, .inr (4, [.ref fa, .int fc, .int cc, .ref ma, .ref da, .int pr, .ref ba, .int bc, .int nc, .int lf, .int mi, .ref tr, .ref wk, .ref sd])), (fa, .inl (cF, 1000, .inr (.inr (.inr (.inr FA)))))] ++ po) := hD
    refine W.eq (g2 := F0 m 9 ls [va_rf (q_at p_term x fc FA FS)]) rfl ?_
    obtain ⟨op_1, ho_1⟩ : ∃ x9 : Option Nat, q_at p_term x fc FA FS = x9 := ⟨_, rfl⟩
    cases op_1 with
    | none =>
      refine W.eq (g2 := F0 m 9 ls [.null]) (by rw [ho_1] <;> rfl) ?_
      refine lv_ifnullN (tgt := 16) hx hb dX5_isTermOrNone_9 (by decide) ?_
      refine lv_iconst (v := 0) hx hb dX5_isTermOrNone_16 (by decide) ?_
      refine lv_goto (tgt := 30) hx hb dX5_isTermOrNone_17 (by decide) ?_
      exact ck_iret () hx hb hr rfl hlocks (congrArg (fun z9 => some (Value.int z9)) (show (0 : Int32) = q_orNone p_term x b fc FA FS from (by unfold q_orNone; rw [if_neg c_1, ho_1]; rfl))) (hP.part [0, 1] rfl) (hK.sub [0, 1] rfl) (hD.part [0, 1] (by decide) rfl) hS (by decide) (by decide) dX5_isTermOrNone_30
    | some a_1 =>
      refine W.eq (g2 := F0 m 9 ls [.ref a_1]) (by rw [ho_1] <;> rfl) ?_
      refine lv_ifnull hx hb dX5_isTermOrNone_9 ?_
      refine lv_iconst (v := 1) hx hb dX5_isTermOrNone_12 (by decide) ?_
      refine lv_goto (tgt := 30) hx hb dX5_isTermOrNone_13 (by decide) ?_
      exact ck_iret () hx hb hr rfl hlocks (congrArg (fun z9 => some (Value.int z9)) (show (1 : Int32) = q_orNone p_term x b fc FA FS from (by unfold q_orNone; rw [if_neg c_1, ho_1]; rfl))) (hP.part [0, 1] rfl) (hK.sub [0, 1] rfl) (hD.part [0, 1] (by decide) rfl) hS (by decide) (by decide) dX5_isTermOrNone_30
set_option maxHeartbeats 4000000 in
set_option maxRecDepth 100000 in
theorem c_formOr (l : Launch) (D : va_G) (sz : Nat) (d fa ma da ba wk sd tr : Nat) (fc cc pr bc nc lf mi : Int32) (cF : ClassId) (FA : Nat → Option Nat) (cR : ClassId) (po : va_W) (FS : Nat → FR) (hI : fAll cR po fc FA FS) (x : Int32) (b : Int32) : cM l yX5_isFormulaOrNone (.code yX5_isFormulaOrNone cX5_isFormulaOrNone 3 (some .boolean)) 18 550 0 0 [.ref d, .int x, .int b] D [(cR, .int), (cF, .object RX2)] ([(d, .inr (4, [.ref fa, .int fc, .int cc, .ref ma, .ref da, .int pr, .ref ba, .int bc, .int nc, .int lf, .int mi, .ref tr, .ref wk, .ref sd])), (fa, .inl (cF, 1000, .inr (.inr (.inr (.inr FA)))))] ++ po) sz (S := Unit) (fun v _ => v = some (.int (q_orNone p_form x b fc FA FS))) (fun _ => ([(d, .inr (4, [.ref fa, .int fc, .int cc, .ref ma, .ref da, .int pr, .ref ba, .int bc, .int nc, .int lf, .int mi, .ref tr, .ref wk, .ref sd])), (fa, .inl (cF, 1000, .inr (.inr (.inr (.inr FA)))))] ++ po)) (fun _ => [(cR, .int), (cF, .object RX2)]) := by
  refine cM_of (by decide) (Nat.le_of_ble_eq_true rfl) ?_
  intro p e s m below meth c ls hF hsz hP hK hD hE hZ hA hl
  obtain ⟨hx, hb, hr, hml, hown, hlocks, hnm, htb, hts⟩ := hF
  have hown : s.vm.findClass RX5 = some m.cls := hown
  have hl : lv_has ls 3 [(0, .ref d), (1, .int x), (2, .int b)] := hl
  have hS : va_S (va_A ([(d, .inr (4, [.ref fa, .int fc, .int cc, .ref ma, .ref da, .int pr, .ref ba, .int bc, .int nc, .int lf, .int mi, .ref tr, .ref wk, .ref sd])), (fa, .inl (cF, 1000, .inr (.inr (.inr (.inr FA)))))] ++ po) sz) s.heap s.heap [] := va_S.rf
  refine lv_iload_n hx hb dX5_isFormulaOrNone_0 rfl (lv_at hl 2 rfl) ?_
  refine lv_if_eq (tgt := 20) hx hb dX5_isFormulaOrNone_1 (by decide) (fun c_1 => ?_) (fun c_1 => ?_)
  · refine lv_iload_n hx hb dX5_isFormulaOrNone_20 rfl (lv_at hl 1 rfl) ?_
    refine lv_iconst (v := (-1)) hx hb dX5_isFormulaOrNone_21 (by decide) ?_
    refine lv_icmp_ne (tgt := 29) hx hb dX5_isFormulaOrNone_22 (by decide) (fun c_22 => ?_) (fun c_22 => ?_)
    · refine lv_iconst (v := 0) hx hb dX5_isFormulaOrNone_29 (by decide) ?_
      exact ck_iret () hx hb hr rfl hlocks (congrArg (fun z9 => some (Value.int z9)) (show (0 : Int32) = q_orNone p_form x b fc FA FS from (by unfold q_orNone; rw [if_pos c_1, if_neg c_22]))) (hP.part [0, 1] rfl) (hK.sub [0, 1] rfl) (hD.part [0, 1] (by decide) rfl) hS (by decide) (by decide) dX5_isFormulaOrNone_30
    · refine lv_iconst (v := 1) hx hb dX5_isFormulaOrNone_25 (by decide) ?_
      refine lv_goto (tgt := 30) hx hb dX5_isFormulaOrNone_26 (by decide) ?_
      exact ck_iret () hx hb hr rfl hlocks (congrArg (fun z9 => some (Value.int z9)) (show (1 : Int32) = q_orNone p_form x b fc FA FS from (by unfold q_orNone; rw [if_pos c_1, if_pos c_22]))) (hP.part [0, 1] rfl) (hK.sub [0, 1] rfl) (hD.part [0, 1] (by decide) rfl) hS (by decide) (by decide) dX5_isFormulaOrNone_30
  · refine lv_aload_n hx hb dX5_isFormulaOrNone_4 rfl (lv_at hl 0 rfl) ?_
    refine lv_iload_n hx hb dX5_isFormulaOrNone_5 rfl (lv_at hl 1 rfl) ?_
    have hP : va_P D vwCl ([(d, .inr (4, [.ref fa, .int fc, .int cc, .ref ma, .ref da, .int pr, .ref ba, .int bc, .int nc, .int lf, .int mi, .ref tr, .ref wk, .ref sd])), (fa, .inl (cF, 1000, .inr (.inr (.inr (.inr FA)))))] ++ po) s.heap := hP
    have hD : va_D _ ([(d, .inr (4, [.ref fa, .int fc, .int cc, .ref ma, .ref da, .int pr, .ref ba, .int bc, .int nc, .int lf, .int mi, .ref tr, .ref wk, .ref sd])), (fa, .inl (cF, 1000, .inr (.inr (.inr (.inr FA)))))] ++ po) := hD
    refine ck_runP (wr := []) (rx := fun _ => [(d, .inr (4, [.ref fa, .int fc, .int cc, .ref ma, .ref da, .int pr, .ref ba, .int bc, .int nc, .int lf, .int mi, .ref tr, .ref wk, .ref sd])), (fa, .inl (cF, 1000, .inr (.inr (.inr (.inr FA)))))]) (pl1 := fun _ => po) (va_runV (C := RX5) (As := [.int x]) (rest := []) ⟨hx, hb, hml, hown, hts⟩ (c_formulaAt l D s.heap.size d fa ma da ba wk sd tr fc cc pr bc nc lf mi cF FA cR po FS hI x) (cw_V (n := 1) hts tw_2_23 tw_2_25 tw_s1 tw_1_1 tw_2_26 (by decide +kernel) ⟨by decide, by decide⟩) ⟨pre.blind, va_recv (q := (RX5, TX5, 14)) hK hP (ci := 4) (q0 := 0) rfl rfl, fun U hU hW => ⟨rfl, pre.ofP (cx := [(d, .inr (4, [.ref fa, .int fc, .int cc, .ref ma, .ref da, .int pr, .ref ba, .int bc, .int nc, .int lf, .int mi, .ref tr, .ref wk, .ref sd])), (fa, .inl (cF, 1000, .inr (.inr (.inr (.inr FA)))))]) (pl := po) (tysc := [(cR, .int), (cF, .object RX2)]) (tk := [0, 1]) hP hD hK hS hA hE hZ [0, 1] (by decide) rfl rfl U hU hW⟩⟩ rfl rfl hl.1 rfl (lv_room (Nat.le_of_ble_eq_true rfl)) dX5_isFormulaOrNone_6 ⟨by decide, by decide⟩) hP hD hK hS hA (fun _ => rfl) [0, 1] [] rfl rfl (by decide) (by decide) (fun v u H locs hw hP hD hK9 hS => ?_)
    have hw : v = some (va_rf (q_at p_form x fc FA FS)) := hw
    subst hw
    have hP : va_P D vwCl ([(d, .inr (4, [.ref fa, .int fc, .int cc, .ref ma, .ref da, .int pr, .ref ba, .int bc, .int nc, .int lf, .int mi, .ref tr, .ref wk, .ref sd])), (fa, .inl (cF, 1000, .inr (.inr (.inr (.inr FA)))))] ++ po) H := hP
    have hD : va_D _ ([(d, .inr (4, [.ref fa, .int fc, .int cc, .ref ma, .ref da, .int pr, .ref ba, .int bc, .int nc, .int lf, .int mi, .ref tr, .ref wk, .ref sd])), (fa, .inl (cF, 1000, .inr (.inr (.inr (.inr FA)))))] ++ po) := hD
    refine W.eq (g2 := F0 m 9 ls [va_rf (q_at p_form x fc FA FS)]) rfl ?_
    obtain ⟨op_1, ho_1⟩ : ∃ x9 : Option Nat, q_at p_form x fc FA FS = x9 := ⟨_, rfl⟩
    cases op_1 with
    | none =>
      refine W.eq (g2 := F0 m 9 ls [.null]) (by rw [ho_1] <;> rfl) ?_
      refine lv_ifnullN (tgt := 16) hx hb dX5_isFormulaOrNone_9 (by decide) ?_
      refine lv_iconst (v := 0) hx hb dX5_isFormulaOrNone_16 (by decide) ?_
      refine lv_goto (tgt := 30) hx hb dX5_isFormulaOrNone_17 (by decide) ?_
      exact ck_iret () hx hb hr rfl hlocks (congrArg (fun z9 => some (Value.int z9)) (show (0 : Int32) = q_orNone p_form x b fc FA FS from (by unfold q_orNone; rw [if_neg c_1, ho_1]; rfl))) (hP.part [0, 1] rfl) (hK.sub [0, 1] rfl) (hD.part [0, 1] (by decide) rfl) hS (by decide) (by decide) dX5_isFormulaOrNone_30
    | some a_1 =>
      refine W.eq (g2 := F0 m 9 ls [.ref a_1]) (by rw [ho_1] <;> rfl) ?_
      refine lv_ifnull hx hb dX5_isFormulaOrNone_9 ?_
      refine lv_iconst (v := 1) hx hb dX5_isFormulaOrNone_12 (by decide) ?_
      refine lv_goto (tgt := 30) hx hb dX5_isFormulaOrNone_13 (by decide) ?_
      exact ck_iret () hx hb hr rfl hlocks (congrArg (fun z9 => some (Value.int z9)) (show (1 : Int32) = q_orNone p_form x b fc FA FS from (by unfold q_orNone; rw [if_neg c_1, ho_1]; rfl))) (hP.part [0, 1] rfl) (hK.sub [0, 1] rfl) (hD.part [0, 1] (by decide) rfl) hS (by decide) (by decide) dX5_isFormulaOrNone_30
