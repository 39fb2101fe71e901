set_option maxHeartbeats 4000000 in
set_option maxRecDepth 100000 in
theorem c_shown (l : Launch) (D : va_G) (sz : Nat) (cR : ClassId) (po : va_W) (j1 i1 : Nat) (o1 q1 : Nat) (F1 : FR) (hgo1 : po[i1]? = some (o1, .inr (1, [.ref q1, .int (fm_whole F1.2 F1.1), .int (fm F1.2 F1.1).2]))) (hgc1 : po[j1]? = some (q1, .inl (cR, F1.1, .inl F1.2))) (hN1 : 1 ≤ F1.1 ∧ F1.1 ≤ 512) (b : Nat) (bk : Int32) (th la : Option Nat) (bw bl : Int32) : cM l yX0_isShown (.code yX0_isShown cX0_isShown 1 (some .boolean)) 12 340 0 0 [.ref b] D [(cR, .int)] ([(b, .inr (0, [.int bk, .ref o1, .int bw, .int bl, va_rf la]))] ++ po) sz (S := Unit) (fun v _ => v = some (.int (b_shown bw bl la F1))) (fun _ => ([(b, .inr (0, [.int bk, .ref o1, .int bw, .int bl, va_rf la]))] ++ po)) (fun _ => [(cR, .int)]) := by
  refine cM_of (by decide) (Nat.le_of_ble_eq_true rfl) ?_
  intro p e s m below meth c ls hF hsz hP hK hD hE hZ hA hl
  obtain ⟨hx, hb, hr, hml, hown, hlocks, hnm, htb, hts⟩ := hF
  have hown : s.vm.findClass RX0 = some m.cls := hown
  have hl : lv_has ls 1 [(0, .ref b)] := hl
  have hS : va_S (va_A ([(b, .inr (0, [.int bk, .ref o1, .int bw, .int bl, va_rf la]))] ++ po) sz) s.heap s.heap [] := va_S.rf
  refine lv_aload_n hx hb dX0_isShown_0 rfl (lv_at hl 0 rfl) ?_
  refine va_get (ci := 0) (v := .int bw) (C := RX0) (T := TX0) (N := 5) hx hb hts inG_X0 hown hK hP 0 rfl rfl 2 (by decide) (hts _ tw_1_37) (fun _ h9 => h9) rfl dX0_isShown_1 ?_
  refine lv_if_eq (tgt := 27) hx hb dX0_isShown_4 (by decide) (fun c_4 => ?_) (fun c_4 => ?_)
  · refine lv_aload_n hx hb dX0_isShown_27 rfl (lv_at hl 0 rfl) ?_
    refine va_get (ci := 0) (v := .ref o1) (C := RX0) (T := TX0) (N := 5) hx hb hts inG_X0 hown hK hP 0 rfl rfl 1 (by decide) (hts _ tw_1_35) (fun _ h9 => h9) rfl dX0_isShown_28 ?_
    refine lv_ifnull hx hb dX0_isShown_31 ?_
    refine lv_aload_n hx hb dX0_isShown_34 rfl (lv_at hl 0 rfl) ?_
    refine va_get (ci := 0) (v := .ref o1) (C := RX0) (T := TX0) (N := 5) hx hb hts inG_X0 hown hK hP 0 rfl rfl 1 (by decide) (hts _ tw_1_35) (fun _ h9 => h9) rfl dX0_isShown_35 ?_
    have hP : va_P D vwCl ([(b, .inr (0, [.int bk, .ref o1, .int bw, .int bl, va_rf la]))] ++ po) s.heap := hP
    have hD : va_D _ ([(b, .inr (0, [.int bk, .ref o1, .int bw, .int bl, va_rf la]))] ++ po) := hD
    refine ck_runP (wr := [(b, .inr (0, [.int bk, .ref o1, .int bw, .int bl, va_rf la]))]) (rx := fun _ => []) (pl1 := fun _ => po) (va_runV (C := RX2) (As := []) (rest := []) ⟨hx, hb, hml, hown, hts⟩ (c_head l D s.heap.size cR po j1 i1 o1 q1 F1.1 F1.2 (fm_whole F1.2 F1.1) ((fm F1.2 F1.1).2) hgo1 hgc1 hN1) (cw_V (n := 0) hts tw_3_187 tw_2_40 tw_2_41 tw_1_4 tw_2_42 (by decide +kernel) ⟨by decide, by decide⟩) ⟨pre.blind, va_recv (q := (RX2, TX2, 3)) hK hP (ci := 1) (q0 := (i1 + 1)) rfl hgo1, fun U hU hW => ⟨rfl, pre.ofP (cx := []) (pl := po) (tysc := [(cR, .int)]) (tk := [0]) hP hD hK hS hA hE hZ [] (by decide) rfl rfl U hU hW⟩⟩ rfl rfl hl.1 rfl (lv_room (Nat.le_of_ble_eq_true rfl)) dX0_isShown_38 ⟨by decide, by decide⟩) hP hD hK hS hA (fun _ => rfl) [] [0] rfl rfl (by decide) (by decide) (fun v u H locs hw hP hD hK9 hS => ?_)
    have hw : v = some (.int (F1.2 ((0 : Int32).toNatClampNeg))) := hw
    subst hw
    have hP : va_P D vwCl ([(b, .inr (0, [.int bk, .ref o1, .int bw, .int bl, va_rf la]))] ++ po) H := hP
    have hD : va_D _ ([(b, .inr (0, [.int bk, .ref o1, .int bw, .int bl, va_rf la]))] ++ po) := hD
    refine W.eq (g2 := F0 m 41 ls [.int (F1.2 ((0 : Int32).toNatClampNeg))]) rfl ?_
    refine lv_iconst (v := 3) hx hb dX0_isShown_41 (by decide) ?_
    refine lv_icmp_ne (tgt := 49) hx hb dX0_isShown_42 (by decide) (fun c_42 => ?_) (fun c_42 => ?_)
    · refine lv_iconst (v := 0) hx hb dX0_isShown_49 (by decide) ?_
      exact ck_iret () hx hb hr rfl hlocks (congrArg (fun z9 => some (Value.int z9)) (show (0 : Int32) = b_shown bw bl la F1 from (by unfold b_shown; rw [if_pos c_4, if_neg c_42]))) (hP.part [0] rfl) (hK.sub [0] rfl) (hD.part [0] (by decide) rfl) hS (by decide) (by decide) dX0_isShown_50
    · refine lv_iconst (v := 1) hx hb dX0_isShown_45 (by decide) ?_
      refine lv_goto (tgt := 50) hx hb dX0_isShown_46 (by decide) ?_
      exact ck_iret () hx hb hr rfl hlocks (congrArg (fun z9 => some (Value.int z9)) (show (1 : Int32) = b_shown bw bl la F1 from (by unfold b_shown; rw [if_pos c_4, if_pos c_42]))) (hP.part [0] rfl) (hK.sub [0] rfl) (hD.part [0] (by decide) rfl) hS (by decide) (by decide) dX0_isShown_50
  · refine lv_aload_n hx hb dX0_isShown_7 rfl (lv_at hl 0 rfl) ?_
    refine va_get (ci := 0) (v := va_rf la) (C := RX0) (T := TX0) (N := 5) hx hb hts inG_X0 hown hK hP 0 rfl rfl 4 (by decide) (hts _ tw_1_41) (fun _ h9 => h9) rfl dX0_isShown_8 ?_
    obtain ⟨op_1, ho_1⟩ : ∃ x9 : Option Nat, la = x9 := ⟨_, rfl⟩
    cases op_1 with
    | none =>
      refine W.eq (g2 := F0 m 11 ls [.null]) (by rw [ho_1] <;> rfl) ?_
      refine lv_ifnullN (tgt := 25) hx hb dX0_isShown_11 (by decide) ?_
      refine lv_iconst (v := 0) hx hb dX0_isShown_25 (by decide) ?_
      exact ck_iret () hx hb hr rfl hlocks (congrArg (fun z9 => some (Value.int z9)) (show (0 : Int32) = b_shown bw bl la F1 from (by unfold b_shown; rw [if_neg c_4, if_neg (not_isSome ho_1)]))) (hP.part [0] rfl) (hK.sub [0] rfl) (hD.part [0] (by decide) rfl) hS (by decide) (by decide) dX0_isShown_26
    | some a_1 =>
      refine W.eq (g2 := F0 m 11 ls [.ref a_1]) (by rw [ho_1] <;> rfl) ?_
      refine lv_ifnull hx hb dX0_isShown_11 ?_
      refine lv_aload_n hx hb dX0_isShown_14 rfl (lv_at hl 0 rfl) ?_
      refine va_get (ci := 0) (v := .int bl) (C := RX0) (T := TX0) (N := 5) hx hb hts inG_X0 hown hK hP 0 rfl rfl 3 (by decide) (hts _ tw_1_39) (fun _ h9 => h9) rfl dX0_isShown_15 ?_
      refine lv_if_ne (tgt := 25) hx hb dX0_isShown_18 (by decide) (fun c_18 => ?_) (fun c_18 => ?_)
      · refine lv_iconst (v := 0) hx hb dX0_isShown_25 (by decide) ?_
        exact ck_iret () hx hb hr rfl hlocks (congrArg (fun z9 => some (Value.int z9)) (show (0 : Int32) = b_shown bw bl la F1 from (by unfold b_shown; rw [if_neg c_4, if_pos (isSome_of ho_1), if_neg c_18]))) (hP.part [0] rfl) (hK.sub [0] rfl) (hD.part [0] (by decide) rfl) hS (by decide) (by decide) dX0_isShown_26
      · refine lv_iconst (v := 1) hx hb dX0_isShown_21 (by decide) ?_
        refine lv_goto (tgt := 26) hx hb dX0_isShown_22 (by decide) ?_
        exact ck_iret () hx hb hr rfl hlocks (congrArg (fun z9 => some (Value.int z9)) (show (1 : Int32) = b_shown bw bl la F1 from (by unfold b_shown; rw [if_neg c_4, if_pos (isSome_of ho_1), if_pos c_18]))) (hP.part [0] rfl) (hK.sub [0] rfl) (hD.part [0] (by decide) rfl) hS (by decide) (by decide) dX0_isShown_26
set_option maxHeartbeats 4000000 in
set_option maxRecDepth 100000 in
theorem c_noteI_rr (l : Launch) (D : va_G) (sz : Nat) (t_ : Nat) (fo : Nat) (be : Nat) (ki cn : Int32) : cM l yX3_init (.code yX3_init cX3_init 5 none) 10 270 0 0 [.ref t_, .int ki, .int cn, .ref fo, .ref be] D [] [(t_, .inr (2, [.int 0, .int 0, .null, .null]))] sz (S := Unit) (fun v _ => v = none) (fun _ => [(t_, .inr (2, [.int ki, .int cn, .ref fo, .ref be]))]) (fun _ => []) := by
  refine cM_of (by decide) (Nat.le_of_ble_eq_true rfl) ?_
  intro p e s m below meth c ls hF hsz hP hK hD hE hZ hA hl
  obtain ⟨hx, hb, hr, hml, hown, hlocks, hnm, htb, hts⟩ := hF
  have hown : s.vm.findClass RX3 = some m.cls := hown
  have hl : lv_has ls 5 [(0, .ref t_), (1, .int ki), (2, .int cn), (3, .ref fo), (4, .ref be)] := hl
  have hS : va_S (va_A [(t_, .inr (2, [.int 0, .int 0, .null, .null]))] sz) s.heap s.heap [] := va_S.rf
  refine lv_aload_n hx hb dX3_init_0 rfl (lv_at hl 0 rfl) ?_
  refine W.objInit hx hb hown (hts _ tw_3_48) (hts _ tw_oi) (hts _ tw_oc) rfl (by rw [hml]; exact hl.1) rfl dX3_init_1 (Nat.le_of_ble_eq_true rfl) (Nat.le_of_ble_eq_true rfl) ?_
  refine W.eq (g2 := F0 m 4 ls []) rfl ?_
  refine lv_aload_n hx hb dX3_init_4 rfl (lv_at hl 0 rfl) ?_
  refine lv_iload_n hx hb dX3_init_5 rfl (lv_at hl 1 rfl) ?_
  refine va_putF (ci := 2) (v := .int ki) (ty := .int) (C := RX3) (T := TX3) (N := 4) hx hb hts inG_X3 tyX3 tyX3_ok nmX3 hown hK hP hD hS 0 rfl rfl 0 (by decide) (hts _ tw_3_49) (fun _ h9 => h9) rfl hnm rfl (by decide +kernel) rfl rfl (Nat.le_of_ble_eq_true rfl) dX3_init_6 (fun H locs hP hD hS => ?_)
  have hP : va_P D vwCl [(t_, .inr (2, [.int ki, .int 0, .null, .null]))] H := hP
  have hD : va_D _ [(t_, .inr (2, [.int ki, .int 0, .null, .null]))] := hD
  refine lv_aload_n hx hb dX3_init_9 rfl (lv_at hl 0 rfl) ?_
  refine lv_iload_n hx hb dX3_init_10 rfl (lv_at hl 2 rfl) ?_
  refine va_putF (ci := 2) (v := .int cn) (ty := .int) (C := RX3) (T := TX3) (N := 4) hx hb hts inG_X3 tyX3 tyX3_ok nmX3 hown hK hP hD hS 0 rfl rfl 1 (by decide) (hts _ tw_3_51) (fun _ h9 => h9) rfl hnm rfl (by decide +kernel) rfl rfl (Nat.le_of_ble_eq_true rfl) dX3_init_11 (fun H locs hP hD hS => ?_)
  have hP : va_P D vwCl [(t_, .inr (2, [.int ki, .int cn, .null, .null]))] H := hP
  have hD : va_D _ [(t_, .inr (2, [.int ki, .int cn, .null, .null]))] := hD
  refine lv_aload_n hx hb dX3_init_14 rfl (lv_at hl 0 rfl) ?_
  refine lv_aload_n hx hb dX3_init_15 rfl (lv_at hl 3 rfl) ?_
  refine va_putF (ci := 2) (v := .ref fo) (ty := .object "ThesisDesk$Form") (C := RX3) (T := TX3) (N := 4) hx hb hts inG_X3 tyX3 tyX3_ok nmX3 hown hK hP hD hS 0 rfl rfl 2 (by decide) (hts _ tw_3_53) (fun _ h9 => h9) rfl hnm rfl (by decide +kernel) rfl rfl (Nat.le_of_ble_eq_true rfl) dX3_init_16 (fun H locs hP hD hS => ?_)
  have hP : va_P D vwCl [(t_, .inr (2, [.int ki, .int cn, .ref fo, .null]))] H := hP
  have hD : va_D _ [(t_, .inr (2, [.int ki, .int cn, .ref fo, .null]))] := hD
  refine lv_aload_n hx hb dX3_init_19 rfl (lv_at hl 0 rfl) ?_
  refine lv_aload hx hb dX3_init_20 (lv_at hl 4 rfl) ?_
  refine va_putF (ci := 2) (v := .ref be) (ty := .object "ThesisDesk$Note") (C := RX3) (T := TX3) (N := 4) hx hb hts inG_X3 tyX3 tyX3_ok nmX3 hown hK hP hD hS 0 rfl rfl 3 (by decide) (hts _ tw_3_55) (fun _ h9 => h9) rfl hnm rfl (by decide +kernel) rfl rfl (Nat.le_of_ble_eq_true rfl) dX3_init_22 (fun H locs hP hD hS => ?_)
  have hP : va_P D vwCl [(t_, .inr (2, [.int ki, .int cn, .ref fo, .ref be]))] H := hP
  have hD : va_D _ [(t_, .inr (2, [.int ki, .int cn, .ref fo, .ref be]))] := hD
  exact ck_vret () hx hb hr hlocks rfl (hP.sub [0] rfl) (hK.sub [] rfl) (hD.sub [0] (by decide) rfl) hS (by decide) (by decide) dX3_init_25
set_option maxHeartbeats 4000000 in
set_option maxRecDepth 100000 in
theorem c_noteI_rn (l : Launch) (D : va_G) (sz : Nat) (t_ : Nat) (fo : Nat) (ki cn : Int32) : cM l yX3_init (.code yX3_init cX3_init 5 none) 10 270 0 0 [.ref t_, .int ki, .int cn, .ref fo, .null] D [] [(t_, .inr (2, [.int 0, .int 0, .null, .null]))] sz (S := Unit) (fun v _ => v = none) (fun _ => [(t_, .inr (2, [.int ki, .int cn, .ref fo, .null]))]) (fun _ => []) := by
  refine cM_of (by decide) (Nat.le_of_ble_eq_true rfl) ?_
  intro p e s m below meth c ls hF hsz hP hK hD hE hZ hA hl
  obtain ⟨hx, hb, hr, hml, hown, hlocks, hnm, htb, hts⟩ := hF
  have hown : s.vm.findClass RX3 = some m.cls := hown
  have hl : lv_has ls 5 [(0, .ref t_), (1, .int ki), (2, .int cn), (3, .ref fo), (4, .null)] := hl
  have hS : va_S (va_A [(t_, .inr (2, [.int 0, .int 0, .null, .null]))] sz) s.heap s.heap [] := va_S.rf
  refine lv_aload_n hx hb dX3_init_0 rfl (lv_at hl 0 rfl) ?_
  refine W.objInit hx hb hown (hts _ tw_3_48) (hts _ tw_oi) (hts _ tw_oc) rfl (by rw [hml]; exact hl.1) rfl dX3_init_1 (Nat.le_of_ble_eq_true rfl) (Nat.le_of_ble_eq_true rfl) ?_
  refine W.eq (g2 := F0 m 4 ls []) rfl ?_
  refine lv_aload_n hx hb dX3_init_4 rfl (lv_at hl 0 rfl) ?_
  refine lv_iload_n hx hb dX3_init_5 rfl (lv_at hl 1 rfl) ?_
  refine va_putF (ci := 2) (v := .int ki) (ty := .int) (C := RX3) (T := TX3) (N := 4) hx hb hts inG_X3 tyX3 tyX3_ok nmX3 hown hK hP hD hS 0 rfl rfl 0 (by decide) (hts _ tw_3_49) (fun _ h9 => h9) rfl hnm rfl (by decide +kernel) rfl rfl (Nat.le_of_ble_eq_true rfl) dX3_init_6 (fun H locs hP hD hS => ?_)
  have hP : va_P D vwCl [(t_, .inr (2, [.int ki, .int 0, .null, .null]))] H := hP
  have hD : va_D _ [(t_, .inr (2, [.int ki, .int 0, .null, .null]))] := hD
  refine lv_aload_n hx hb dX3_init_9 rfl (lv_at hl 0 rfl) ?_
  refine lv_iload_n hx hb dX3_init_10 rfl (lv_at hl 2 rfl) ?_
  refine va_putF (ci := 2) (v := .int cn) (ty := .int) (C := RX3) (T := TX3) (N := 4) hx hb hts inG_X3 tyX3 tyX3_ok nmX3 hown hK hP hD hS 0 rfl rfl 1 (by decide) (hts _ tw_3_51) (fun _ h9 => h9) rfl hnm rfl (by decide +kernel) rfl rfl (Nat.le_of_ble_eq_true rfl) dX3_init_11 (fun H locs hP hD hS => ?_)
  have hP : va_P D vwCl [(t_, .inr (2, [.int ki, .int cn, .null, .null]))] H := hP
  have hD : va_D _ [(t_, .inr (2, [.int ki, .int cn, .null, .null]))] := hD
  refine lv_aload_n hx hb dX3_init_14 rfl (lv_at hl 0 rfl) ?_
  refine lv_aload_n hx hb dX3_init_15 rfl (lv_at hl 3 rfl) ?_
  refine va_putF (ci := 2) (v := .ref fo) (ty := .object "ThesisDesk$Form") (C := RX3) (T := TX3) (N := 4) hx hb hts inG_X3 tyX3 tyX3_ok nmX3 hown hK hP hD hS 0 rfl rfl 2 (by decide) (hts _ tw_3_53) (fun _ h9 => h9) rfl hnm rfl (by decide +kernel) rfl rfl (Nat.le_of_ble_eq_true rfl) dX3_init_16 (fun H locs hP hD hS => ?_)
  have hP : va_P D vwCl [(t_, .inr (2, [.int ki, .int cn, .ref fo, .null]))] H := hP
  have hD : va_D _ [(t_, .inr (2, [.int ki, .int cn, .ref fo, .null]))] := hD
  refine lv_aload_n hx hb dX3_init_19 rfl (lv_at hl 0 rfl) ?_
  refine lv_aloadN hx hb dX3_init_20 (lv_at hl 4 rfl) ?_
  refine va_putF (ci := 2) (v := .null) (ty := .object "ThesisDesk$Note") (C := RX3) (T := TX3) (N := 4) hx hb hts inG_X3 tyX3 tyX3_ok nmX3 hown hK hP hD hS 0 rfl rfl 3 (by decide) (hts _ tw_3_55) (fun _ h9 => h9) rfl hnm rfl (by decide +kernel) rfl rfl (Nat.le_of_ble_eq_true rfl) dX3_init_22 (fun H locs hP hD hS => ?_)
  have hP : va_P D vwCl [(t_, .inr (2, [.int ki, .int cn, .ref fo, .null]))] H := hP
  have hD : va_D _ [(t_, .inr (2, [.int ki, .int cn, .ref fo, .null]))] := hD
  exact ck_vret () hx hb hr hlocks rfl (hP.sub [0] rfl) (hK.sub [] rfl) (hD.sub [0] (by decide) rfl) hS (by decide) (by decide) dX3_init_25
set_option maxHeartbeats 4000000 in
set_option maxRecDepth 100000 in
theorem c_noteI_nr (l : Launch) (D : va_G) (sz : Nat) (t_ : Nat) (be : Nat) (ki cn : Int32) : cM l yX3_init (.code yX3_init cX3_init 5 none) 10 270 0 0 [.ref t_, .int ki, .int cn, .null, .ref be] D [] [(t_, .inr (2, [.int 0, .int 0, .null, .null]))] sz (S := Unit) (fun v _ => v = none) (fun _ => [(t_, .inr (2, [.int ki, .int cn, .null, .ref be]))]) (fun _ => []) := by
  refine cM_of (by decide) (Nat.le_of_ble_eq_true rfl) ?_
  intro p e s m below meth c ls hF hsz hP hK hD hE hZ hA hl
  obtain ⟨hx, hb, hr, hml, hown, hlocks, hnm, htb, hts⟩ := hF
  have hown : s.vm.findClass RX3 = some m.cls := hown
  have hl : lv_has ls 5 [(0, .ref t_), (1, .int ki), (2, .int cn), (3, .null), (4, .ref be)] := hl
  have hS : va_S (va_A [(t_, .inr (2, [.int 0, .int 0, .null, .null]))] sz) s.heap s.heap [] := va_S.rf
  refine lv_aload_n hx hb dX3_init_0 rfl (lv_at hl 0 rfl) ?_
  refine W.objInit hx hb hown (hts _ tw_3_48) (hts _ tw_oi) (hts _ tw_oc) rfl (by rw [hml]; exact hl.1) rfl dX3_init_1 (Nat.le_of_ble_eq_true rfl) (Nat.le_of_ble_eq_true rfl) ?_
  refine W.eq (g2 := F0 m 4 ls []) rfl ?_
  refine lv_aload_n hx hb dX3_init_4 rfl (lv_at hl 0 rfl) ?_
  refine lv_iload_n hx hb dX3_init_5 rfl (lv_at hl 1 rfl) ?_
  refine va_putF (ci := 2) (v := .int ki) (ty := .int) (C := RX3) (T := TX3) (N := 4) hx hb hts inG_X3 tyX3 tyX3_ok nmX3 hown hK hP hD hS 0 rfl rfl 0 (by decide) (hts _ tw_3_49) (fun _ h9 => h9) rfl hnm rfl (by decide +kernel) rfl rfl (Nat.le_of_ble_eq_true rfl) dX3_init_6 (fun H locs hP hD hS => ?_)
  have hP : va_P D vwCl [(t_, .inr (2, [.int ki, .int 0, .null, .null]))] H := hP
  have hD : va_D _ [(t_, .inr (2, [.int ki, .int 0, .null, .null]))] := hD
  refine lv_aload_n hx hb dX3_init_9 rfl (lv_at hl 0 rfl) ?_
  refine lv_iload_n hx hb dX3_init_10 rfl (lv_at hl 2 rfl) ?_
  refine va_putF (ci := 2) (v := .int cn) (ty := .int) (C := RX3) (T := TX3) (N := 4) hx hb hts inG_X3 tyX3 tyX3_ok nmX3 hown hK hP hD hS 0 rfl rfl 1 (by decide) (hts _ tw_3_51) (fun _ h9 => h9) rfl hnm rfl (by decide +kernel) rfl rfl (Nat.le_of_ble_eq_true rfl) dX3_init_11 (fun H locs hP hD hS => ?_)
  have hP : va_P D vwCl [(t_, .inr (2, [.int ki, .int cn, .null, .null]))] H := hP
  have hD : va_D _ [(t_, .inr (2, [.int ki, .int cn, .null, .null]))] := hD
  refine lv_aload_n hx hb dX3_init_14 rfl (lv_at hl 0 rfl) ?_
  refine lv_aload_nN hx hb dX3_init_15 rfl (lv_at hl 3 rfl) ?_
  refine va_putF (ci := 2) (v := .null) (ty := .object "ThesisDesk$Form") (C := RX3) (T := TX3) (N := 4) hx hb hts inG_X3 tyX3 tyX3_ok nmX3 hown hK hP hD hS 0 rfl rfl 2 (by decide) (hts _ tw_3_53) (fun _ h9 => h9) rfl hnm rfl (by decide +kernel) rfl rfl (Nat.le_of_ble_eq_true rfl) dX3_init_16 (fun H locs hP hD hS => ?_)
  have hP : va_P D vwCl [(t_, .inr (2, [.int ki, .int cn, .null, .null]))] H := hP
  have hD : va_D _ [(t_, .inr (2, [.int ki, .int cn, .null, .null]))] := hD
  refine lv_aload_n hx hb dX3_init_19 rfl (lv_at hl 0 rfl) ?_
  refine lv_aload hx hb dX3_init_20 (lv_at hl 4 rfl) ?_
  refine va_putF (ci := 2) (v := .ref be) (ty := .object "ThesisDesk$Note") (C := RX3) (T := TX3) (N := 4) hx hb hts inG_X3 tyX3 tyX3_ok nmX3 hown hK hP hD hS 0 rfl rfl 3 (by decide) (hts _ tw_3_55) (fun _ h9 => h9) rfl hnm rfl (by decide +kernel) rfl rfl (Nat.le_of_ble_eq_true rfl) dX3_init_22 (fun H locs hP hD hS => ?_)
  have hP : va_P D vwCl [(t_, .inr (2, [.int ki, .int cn, .null, .ref be]))] H := hP
  have hD : va_D _ [(t_, .inr (2, [.int ki, .int cn, .null, .ref be]))] := hD
  exact ck_vret () hx hb hr hlocks rfl (hP.sub [0] rfl) (hK.sub [] rfl) (hD.sub [0] (by decide) rfl) hS (by decide) (by decide) dX3_init_25
set_option maxHeartbeats 4000000 in
set_option maxRecDepth 100000 in
theorem c_noteI_nn (l : Launch) (D : va_G) (sz : Nat) (t_ : Nat) (ki cn : Int32) : cM l yX3_init (.code yX3_init cX3_init 5 none) 10 270 0 0 [.ref t_, .int ki, .int cn, .null, .null] D [] [(t_, .inr (2, [.int 0, .int 0, .null, .null]))] sz (S := Unit) (fun v _ => v = none) (fun _ => [(t_, .inr (2, [.int ki, .int cn, .null, .null]))]) (fun _ => []) := by
  refine cM_of (by decide) (Nat.le_of_ble_eq_true rfl) ?_
  intro p e s m below meth c ls hF hsz hP hK hD hE hZ hA hl
  obtain ⟨hx, hb, hr, hml, hown, hlocks, hnm, htb, hts⟩ := hF
  have hown : s.vm.findClass RX3 = some m.cls := hown
  have hl : lv_has ls 5 [(0, .ref t_), (1, .int ki), (2, .int cn), (3, .null), (4, .null)] := hl
  have hS : va_S (va_A [(t_, .inr (2, [.int 0, .int 0, .null, .null]))] sz) s.heap s.heap [] := va_S.rf
  refine lv_aload_n hx hb dX3_init_0 rfl (lv_at hl 0 rfl) ?_
  refine W.objInit hx hb hown (hts _ tw_3_48) (hts _ tw_oi) (hts _ tw_oc) rfl (by rw [hml]; exact hl.1) rfl dX3_init_1 (Nat.le_of_ble_eq_true rfl) (Nat.le_of_ble_eq_true rfl) ?_
  refine W.eq (g2 := F0 m 4 ls []) rfl ?_
  refine lv_aload_n hx hb dX3_init_4 rfl (lv_at hl 0 rfl) ?_
  refine lv_iload_n hx hb dX3_init_5 rfl (lv_at hl 1 rfl) ?_
  refine va_putF (ci := 2) (v := .int ki) (ty := .int) (C := RX3) (T := TX3) (N := 4) hx hb hts inG_X3 tyX3 tyX3_ok nmX3 hown hK hP hD hS 0 rfl rfl 0 (by decide) (hts _ tw_3_49) (fun _ h9 => h9) rfl hnm rfl (by decide +kernel) rfl rfl (Nat.le_of_ble_eq_true rfl) dX3_init_6 (fun H locs hP hD hS => ?_)
  have hP : va_P D vwCl [(t_, .inr (2, [.int ki, .int 0, .null, .null]))] H := hP
  have hD : va_D _ [(t_, .inr (2, [.int ki, .int 0, .null, .null]))] := hD
  refine lv_aload_n hx hb dX3_init_9 rfl (lv_at hl 0 rfl) ?_
  refine lv_iload_n hx hb dX3_init_10 rfl (lv_at hl 2 rfl) ?_
  refine va_putF (ci := 2) (v := .int cn) (ty := .int) (C := RX3) (T := TX3) (N := 4) hx hb hts inG_X3 tyX3 tyX3_ok nmX3 hown hK hP hD hS 0 rfl rfl 1 (by decide) (hts _ tw_3_51) (fun _ h9 => h9) rfl hnm rfl (by decide +kernel) rfl rfl (Nat.le_of_ble_eq_true rfl) dX3_init_11 (fun H locs hP hD hS => ?_)
  have hP : va_P D vwCl [(t_, .inr (2, [.int ki, .int cn, .null, .null]))] H := hP
  have hD : va_D _ [(t_, .inr (2, [.int ki, .int cn, .null, .null]))] := hD
  refine lv_aload_n hx hb dX3_init_14 rfl (lv_at hl 0 rfl) ?_
  refine lv_aload_nN hx hb dX3_init_15 rfl (lv_at hl 3 rfl) ?_
  refine va_putF (ci := 2) (v := .null) (ty := .object "ThesisDesk$Form") (C := RX3) (T := TX3) (N := 4) hx hb hts inG_X3 tyX3 tyX3_ok nmX3 hown hK hP hD hS 0 rfl rfl 2 (by decide) (hts _ tw_3_53) (fun _ h9 => h9) rfl hnm rfl (by decide +kernel) rfl rfl (Nat.le_of_ble_eq_true rfl) dX3_init_16 (fun H locs hP hD hS => ?_)
  have hP : va_P D vwCl [(t_, .inr (2, [.int ki, .int cn, .null, .null]))] H := hP
  have hD : va_D _ [(t_, .inr (2, [.int ki, .int cn, .null, .null]))] := hD
  refine lv_aload_n hx hb dX3_init_19 rfl (lv_at hl 0 rfl) ?_
  refine lv_aloadN hx hb dX3_init_20 (lv_at hl 4 rfl) ?_
  refine va_putF (ci := 2) (v := .null) (ty := .object "ThesisDesk$Note") (C := RX3) (T := TX3) (N := 4) hx hb hts inG_X3 tyX3 tyX3_ok nmX3 hown hK hP hD hS 0 rfl rfl 3 (by decide) (hts _ tw_3_55) (fun _ h9 => h9) rfl hnm rfl (by decide +kernel) rfl rfl (Nat.le_of_ble_eq_true rfl) dX3_init_22 (fun H locs hP hD hS => ?_)
  have hP : va_P D vwCl [(t_, .inr (2, [.int ki, .int cn, .null, .null]))] H := hP
  have hD : va_D _ [(t_, .inr (2, [.int ki, .int cn, .null, .null]))] := hD
  exact ck_vret () hx hb hr hlocks rfl (hP.sub [0] rfl) (hK.sub [] rfl) (hD.sub [0] (by decide) rfl) hS (by decide) (by decide) dX3_init_25
set_option maxHeartbeats 4000000 in
set_option maxRecDepth 100000 in
theorem c_full (l : Launch) (hl0 : l.stackTraces = false) (D : va_G) (sz : Nat) (d fa ma da ba wk sd tr : Nat) (fc cc pr bc nc lf mi : Int32) (po : va_W) : cY l yX5_refuseWhenFull (.code yX5_refuseWhenFull cX5_refuseWhenFull 1 none) 20 620 1 6 [.ref d] D [] ([(d, .inr (4, [.ref fa, .int fc, .int cc, .ref ma, .ref da, .int pr, .ref ba, .int bc, .int nc, .int lf, .int mi, .ref tr, .ref wk, .ref sd]))] ++ po) sz (S := Unit) (fun v _ => v = none ∧ nc < 1000) (fun _ => ([(d, .inr (4, [.ref fa, .int fc, .int cc, .ref ma, .ref da, .int pr, .ref ba, .int bc, .int nc, .int lf, .int mi, .ref tr, .ref wk, .ref sd]))] ++ po)) (fun _ => []) (T := Unit) (fun E _ => E = nISE ∧ ¬ nc < 1000) (fun _ => ([(d, .inr (4, [.ref fa, .int fc, .int cc, .ref ma, .ref da, .int pr, .ref ba, .int bc, .int nc, .int lf, .int mi, .ref tr, .ref wk, .ref sd]))] ++ po)) := by
  refine cY_of (by decide) (Nat.le_of_ble_eq_true rfl) ?_
  intro p e s m below meth c ls hF hsz hP hK hD hE hZ hA hl
  obtain ⟨hx, hb, hr, hml, hown, hlocks, hnm, htb, hts⟩ := hF
  have hown : s.vm.findClass RX5 = some m.cls := hown
  have hl : lv_has ls 1 [(0, .ref d)] := hl
  have hS : va_S (va_A ([(d, .inr (4, [.ref fa, .int fc, .int cc, .ref ma, .ref da, .int pr, .ref ba, .int bc, .int nc, .int lf, .int mi, .ref tr, .ref wk, .ref sd]))] ++ po) sz) s.heap s.heap [] := va_S.rf
  refine lv_aload_n hx hb dX5_refuseWhenFull_0 rfl (lv_at hl 0 rfl) ?_
  refine va_get (ci := 4) (v := .int nc) (C := RX5) (T := TX5) (N := 14) hx hb hts inG_X5 hown hK hP 0 rfl rfl 8 (by decide) (hts _ tw_1_125) (fun _ h9 => h9) rfl dX5_refuseWhenFull_1 ?_
  refine lv_sipush (v := 1000) hx hb dX5_refuseWhenFull_4 (by decide) ?_
  refine lv_icmp_lt (tgt := 21) hx hb dX5_refuseWhenFull_7 (by decide) (fun c_7 => ?_) (fun c_7 => ?_)
  · exact vx_ret (ck_vret () hx hb hr hlocks ⟨rfl, c_7⟩ (hP.part [0] rfl) (hK.sub [] rfl) (hD.part [0] (by decide) rfl) hS (by decide) (by decide) dX5_refuseWhenFull_21)
  · exact ty_ISEw hx hb hl0 hown hlocks htb hE hZ hS (hl.1.trans hml.symm) tn_3_34 sx_310 dX5_refuseWhenFull_10 dX5_refuseWhenFull_13 dX5_refuseWhenFull_14 dX5_refuseWhenFull_17 dX5_refuseWhenFull_20 (by decide) (Nat.le_of_ble_eq_true rfl) (Nat.le_of_ble_eq_true rfl) (Nat.le_of_ble_eq_true rfl) () ⟨rfl, c_7⟩ (hP.part [0] rfl) (hD.part [0] (by decide) rfl) (by decide) (by decide)
