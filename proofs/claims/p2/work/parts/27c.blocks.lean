set_option maxHeartbeats 4000000 in
set_option maxRecDepth 100000 in
theorem c_openB (l : Launch) (D : va_G) (sz : Nat) (d fa ma da ba wk sd tr : Nat) (fc cc pr bc nc lf mi : Int32) (cB : ClassId) (BA : Nat → Option Nat) : cM l yX5_openBlock (.code yX5_openBlock cX5_openBlock 1 (some (.object "ThesisDesk$Block"))) 10 270 0 0 [.ref d] D [(cB, .object RX0)] [(d, .inr (4, [.ref fa, .int fc, .int cc, .ref ma, .ref da, .int pr, .ref ba, .int bc, .int nc, .int lf, .int mi, .ref tr, .ref wk, .ref sd])), (ba, .inl (cB, 40, .inr (.inr (.inr (.inr BA)))))] sz (S := Unit) (fun v _ => v = some (va_rf (q_openB bc BA))) (fun _ => [(d, .inr (4, [.ref fa, .int fc, .int cc, .ref ma, .ref da, .int pr, .ref ba, .int bc, .int nc, .int lf, .int mi, .ref tr, .ref wk, .ref sd])), (ba, .inl (cB, 40, .inr (.inr (.inr (.inr BA)))))]) (fun _ => [(cB, .object RX0)]) := by
  refine cM_of (by decide) (Nat.le_of_ble_eq_true rfl) ?_
  intro p e s m below meth c ls hF hsz hP hK hD hE hZ hA hl
  obtain ⟨hx, hb, hr, hml, hown, hlocks, hnm, htb, hts⟩ := hF
  have hown : s.vm.findClass RX5 = some m.cls := hown
  have hl : lv_has ls 1 [(0, .ref d)] := hl
  have hS : va_S (va_A [(d, .inr (4, [.ref fa, .int fc, .int cc, .ref ma, .ref da, .int pr, .ref ba, .int bc, .int nc, .int lf, .int mi, .ref tr, .ref wk, .ref sd])), (ba, .inl (cB, 40, .inr (.inr (.inr (.inr BA)))))] sz) s.heap s.heap [] := va_S.rf
  refine lv_aload_n hx hb dX5_openBlock_0 rfl (lv_at hl 0 rfl) ?_
  refine va_get (ci := 4) (v := .int bc) (C := RX5) (T := TX5) (N := 14) hx hb hts inG_X5 hown hK hP 0 rfl rfl 7 (by decide) (hts _ tw_1_124) (fun _ h9 => h9) rfl dX5_openBlock_1 ?_
  refine lv_if_le (tgt := 30) hx hb dX5_openBlock_4 (by decide) (fun c_4 => ?_) (fun c_4 => ?_)
  · refine lv_null hx hb dX5_openBlock_30 ?_
    exact ck_aret () hx hb hr (Or.inl ⟨_, rfl⟩) (Or.inl rfl) hlocks (congrArg some (show (.null : Value) = va_rf (q_openB bc BA) from (by unfold q_openB; rw [if_pos c_4] <;> rfl))) (hP.sub [0, 1] rfl) (hK.sub [0] rfl) (hD.sub [0, 1] (by decide) rfl) hS (by decide) (by decide) dX5_openBlock_31
  · refine lv_aload_n hx hb dX5_openBlock_7 rfl (lv_at hl 0 rfl) ?_
    refine va_get (ci := 4) (v := .int bc) (C := RX5) (T := TX5) (N := 14) hx hb hts inG_X5 hown hK hP 0 rfl rfl 7 (by decide) (hts _ tw_1_124) (fun _ h9 => h9) rfl dX5_openBlock_8 ?_
    refine lv_bipush (v := 40) hx hb dX5_openBlock_11 (by decide) ?_
    refine lv_icmp_gt (tgt := 30) hx hb dX5_openBlock_13 (by decide) (fun c_13 => ?_) (fun c_13 => ?_)
    · refine lv_null hx hb dX5_openBlock_30 ?_
      exact ck_aret () hx hb hr (Or.inl ⟨_, rfl⟩) (Or.inl rfl) hlocks (congrArg some (show (.null : Value) = va_rf (q_openB bc BA) from (by unfold q_openB; rw [if_neg c_4, if_pos c_13] <;> rfl))) (hP.sub [0, 1] rfl) (hK.sub [0] rfl) (hD.sub [0, 1] (by decide) rfl) hS (by decide) (by decide) dX5_openBlock_31
    · refine lv_aload_n hx hb dX5_openBlock_16 rfl (lv_at hl 0 rfl) ?_
      refine va_get (ci := 4) (v := .ref ba) (C := RX5) (T := TX5) (N := 14) hx hb hts inG_X5 hown hK hP 0 rfl rfl 6 (by decide) (hts _ tw_1_123) (fun _ h9 => h9) rfl dX5_openBlock_17 ?_
      refine lv_aload_n hx hb dX5_openBlock_20 rfl (lv_at hl 0 rfl) ?_
      refine va_get (ci := 4) (v := .int bc) (C := RX5) (T := TX5) (N := 14) hx hb hts inG_X5 hown hK hP 0 rfl rfl 7 (by decide) (hts _ tw_1_124) (fun _ h9 => h9) rfl dX5_openBlock_21 ?_
      refine lv_iconst (v := 1) hx hb dX5_openBlock_24 (by decide) ?_
      refine lv_isub hx hb dX5_openBlock_25 ?_
      refine ck_top (y := bc - 1) rfl ?_
      refine va_aldq hx hb hK hP 1 0 rfl rfl (bc_in c_4 c_13) dX5_openBlock_26 ?_
      refine lv_goto (tgt := 31) hx hb dX5_openBlock_27 (by decide) ?_
      exact ck_aret () hx hb hr (Or.inl ⟨_, rfl⟩) (va_rf_or _) hlocks (congrArg some (show (va_rf (BA ((bc - 1).toNatClampNeg)) : Value) = va_rf (q_openB bc BA) from (by unfold q_openB; rw [if_neg c_4, if_neg c_13] <;> rfl))) (hP.sub [0, 1] rfl) (hK.sub [0] rfl) (hD.sub [0, 1] (by decide) rfl) hS (by decide) (by decide) dX5_openBlock_31
set_option maxHeartbeats 4000000 in
set_option maxRecDepth 100000 in
theorem c_begin (l : Launch) (D : va_G) (sz : Nat) (b : Nat) (bk : Int32) (th la : Option Nat) (bw bl : Int32) (ki : Int32) (t : Nat) : cM l yX0_begin (.code yX0_begin cX0_begin 3 none) 10 270 0 0 [.ref b, .int ki, .ref t] D [] [(b, .inr (0, [.int bk, va_rf th, .int bw, .int bl, va_rf la]))] sz (S := Unit) (fun v _ => v = none) (fun _ => [(b, .inr (0, [.int ki, .ref t, .int 0, .int 0, .null]))]) (fun _ => []) := by
  refine cM_of (by decide) (Nat.le_of_ble_eq_true rfl) ?_
  intro p e s m below meth c ls hF hsz hP hK hD hE hZ hA hl
  obtain ⟨hx, hb, hr, hml, hown, hlocks, hnm, htb, hts⟩ := hF
  have hown : s.vm.findClass RX0 = some m.cls := hown
  have hl : lv_has ls 3 [(0, .ref b), (1, .int ki), (2, .ref t)] := hl
  have hS : va_S (va_A [(b, .inr (0, [.int bk, va_rf th, .int bw, .int bl, va_rf la]))] sz) s.heap s.heap [] := va_S.rf
  refine lv_aload_n hx hb dX0_begin_0 rfl (lv_at hl 0 rfl) ?_
  refine lv_iload_n hx hb dX0_begin_1 rfl (lv_at hl 1 rfl) ?_
  refine va_put (ci := 0) (v := .int ki) (ty := .int) (C := RX0) (T := TX0) (N := 5) hx hb hts inG_X0 tyX0 tyX0_ok nmX0 hown hK hP hD hS 0 rfl rfl 0 (by decide) (hts _ tw_1_33) (fun _ h9 => h9) rfl (by decide +kernel) rfl rfl (Nat.le_of_ble_eq_true rfl) dX0_begin_2 (fun H locs hP hD hS => ?_)
  have hP : va_P D vwCl [(b, .inr (0, [.int ki, va_rf th, .int bw, .int bl, va_rf la]))] H := hP
  have hD : va_D _ [(b, .inr (0, [.int ki, va_rf th, .int bw, .int bl, va_rf la]))] := hD
  refine lv_aload_n hx hb dX0_begin_5 rfl (lv_at hl 0 rfl) ?_
  refine lv_aload_n hx hb dX0_begin_6 rfl (lv_at hl 2 rfl) ?_
  refine va_put (ci := 0) (v := .ref t) (ty := .object "ThesisDesk$Form") (C := RX0) (T := TX0) (N := 5) hx hb hts inG_X0 tyX0 tyX0_ok nmX0 hown hK hP hD hS 0 rfl rfl 1 (by decide) (hts _ tw_1_35) (fun _ h9 => h9) rfl (by decide +kernel) rfl rfl (Nat.le_of_ble_eq_true rfl) dX0_begin_7 (fun H locs hP hD hS => ?_)
  have hP : va_P D vwCl [(b, .inr (0, [.int ki, .ref t, .int bw, .int bl, va_rf la]))] H := hP
  have hD : va_D _ [(b, .inr (0, [.int ki, .ref t, .int bw, .int bl, va_rf la]))] := hD
  refine lv_aload_n hx hb dX0_begin_10 rfl (lv_at hl 0 rfl) ?_
  refine lv_iconst (v := 0) hx hb dX0_begin_11 (by decide) ?_
  refine va_put (ci := 0) (v := .int 0) (ty := .boolean) (C := RX0) (T := TX0) (N := 5) hx hb hts inG_X0 tyX0 tyX0_ok nmX0 hown hK hP hD hS 0 rfl rfl 2 (by decide) (hts _ tw_1_37) (fun _ h9 => h9) rfl (by decide +kernel) rfl rfl (Nat.le_of_ble_eq_true rfl) dX0_begin_12 (fun H locs hP hD hS => ?_)
  have hP : va_P D vwCl [(b, .inr (0, [.int ki, .ref t, .int 0, .int bl, va_rf la]))] H := hP
  have hD : va_D _ [(b, .inr (0, [.int ki, .ref t, .int 0, .int bl, va_rf la]))] := hD
  refine lv_aload_n hx hb dX0_begin_15 rfl (lv_at hl 0 rfl) ?_
  refine lv_iconst (v := 0) hx hb dX0_begin_16 (by decide) ?_
  refine va_put (ci := 0) (v := .int 0) (ty := .boolean) (C := RX0) (T := TX0) (N := 5) hx hb hts inG_X0 tyX0 tyX0_ok nmX0 hown hK hP hD hS 0 rfl rfl 3 (by decide) (hts _ tw_1_39) (fun _ h9 => h9) rfl (by decide +kernel) rfl rfl (Nat.le_of_ble_eq_true rfl) dX0_begin_17 (fun H locs hP hD hS => ?_)
  have hP : va_P D vwCl [(b, .inr (0, [.int ki, .ref t, .int 0, .int 0, va_rf la]))] H := hP
  have hD : va_D _ [(b, .inr (0, [.int ki, .ref t, .int 0, .int 0, va_rf la]))] := hD
  refine lv_aload_n hx hb dX0_begin_20 rfl (lv_at hl 0 rfl) ?_
  refine lv_null hx hb dX0_begin_21 ?_
  refine va_put (ci := 0) (v := .null) (ty := .object "ThesisDesk$Note") (C := RX0) (T := TX0) (N := 5) hx hb hts inG_X0 tyX0 tyX0_ok nmX0 hown hK hP hD hS 0 rfl rfl 4 (by decide) (hts _ tw_1_41) (fun _ h9 => h9) rfl (by decide +kernel) rfl rfl (Nat.le_of_ble_eq_true rfl) dX0_begin_22 (fun H locs hP hD hS => ?_)
  have hP : va_P D vwCl [(b, .inr (0, [.int ki, .ref t, .int 0, .int 0, .null]))] H := hP
  have hD : va_D _ [(b, .inr (0, [.int ki, .ref t, .int 0, .int 0, .null]))] := hD
  exact ck_vret () hx hb hr hlocks rfl (hP.sub [0] rfl) (hK.sub [] rfl) (hD.sub [0] (by decide) rfl) hS (by decide) (by decide) dX0_begin_25
