set_option maxHeartbeats 4000000 in
set_option maxRecDepth 100000 in
theorem c_keepWork (l : Launch) (D : va_G) (sz : Nat) (h fo mn df bl tr wk sd : Nat) (wc : Nat) (cI cF : ClassId) (f : Nat → Int32) : cM l yX5_keepWork (.code yX5_keepWork cX5_keepWork 1 (some .int)) 18 550 2 4 [.ref h] D [(cI, .int), (cF, .object RX2)] [(h, .inr (4, [.ref fo, .int 0, .int 0, .ref mn, .ref df, .int 0, .ref bl, .int 0, .int 0, .int 1, .int 0, .ref tr, .ref wk, .ref sd])), (wk, .inr (3, [.ref wc, .int 1, .int 0])), (wc, .inl (cI, 512, .inl f)), (fo, .inl (cF, 1000, .inr (.inr (.inr (.inr (fun _ => none))))))] sz (S := Unit) (fun v _ => v = some (.int 0)) (fun _ => [(h, .inr (4, [.ref fo, .int 1, .int 0, .ref mn, .ref df, .int 0, .ref bl, .int 0, .int 0, .int 1, .int 0, .ref tr, .ref wk, .ref sd]))]) (fun _ => []) := by
  refine cM_of (by decide) (Nat.le_of_ble_eq_true rfl) ?_
  intro p e s m below meth c ls hF hsz hP hK hD hE hZ hA hl
  obtain ⟨hx, hb, hr, hml, hown, hlocks, hnm, htb, hts⟩ := hF
  have hown : s.vm.findClass RX5 = some m.cls := hown
  have hl : lv_has ls 1 [(0, .ref h)] := hl
  have hS : va_S (va_A [(h, .inr (4, [.ref fo, .int 0, .int 0, .ref mn, .ref df, .int 0, .ref bl, .int 0, .int 0, .int 1, .int 0, .ref tr, .ref wk, .ref sd])), (wk, .inr (3, [.ref wc, .int 1, .int 0])), (wc, .inl (cI, 512, .inl f)), (fo, .inl (cF, 1000, .inr (.inr (.inr (.inr (fun _ => none))))))] sz) s.heap s.heap [] := va_S.rf
  refine lv_aload_n hx hb dX5_keepWork_0 rfl (lv_at hl 0 rfl) ?_
  refine va_get (ci := 4) (v := .int 0) (C := RX5) (T := TX5) (N := 14) hx hb hts inG_X5 hown hK hP 0 rfl rfl 1 (by decide) (hts _ tw_1_118) (fun _ h9 => h9) rfl dX5_keepWork_1 ?_
  refine lv_sipush (v := 1000) hx hb dX5_keepWork_4 (by decide) ?_
  refine lv_icmp_lt (tgt := 21) hx hb dX5_keepWork_7 (by decide) (fun _ => ?_) (fun c9 => absurd (by decide) c9)
  refine lv_aload_n hx hb dX5_keepWork_21 rfl (lv_at hl 0 rfl) ?_
  refine va_get (ci := 4) (v := .ref wk) (C := RX5) (T := TX5) (N := 14) hx hb hts inG_X5 hown hK hP 0 rfl rfl 12 (by decide) (hts _ tw_1_129) (fun _ h9 => h9) rfl dX5_keepWork_22 ?_
  refine ck_run (wr := [(h, .inr (4, [.ref fo, .int 0, .int 0, .ref mn, .ref df, .int 0, .ref bl, .int 0, .int 0, .int 1, .int 0, .ref tr, .ref wk, .ref sd])), (wc, .inl (cI, 512, .inl f)), (fo, .inl (cF, 1000, .inr (.inr (.inr (.inr (fun _ => none))))))]) (va_runV (C := RX4) (As := []) (rest := []) ⟨hx, hb, hml, hown, hts⟩ (c_tooLarge l D s.heap.size wk wc) (cw_V (n := 0) hts tw_2_71 tw_2_72 tw_2_73 tw_1_3 tw_2_74 (by decide +kernel) ⟨by decide, by decide⟩) ⟨pre.blind, va_recv (q := (RX4, TX4, 3)) hK hP (ci := 3) (q0 := 1) rfl rfl, fun U hU hW => ⟨rfl, pre.of (wc := [(wk, .inr (3, [.ref wc, .int 1, .int 0]))]) (tysc := []) (tk := []) hP hD hK hS hA hE hZ [1] (by decide) rfl rfl rfl U hU hW⟩⟩ rfl rfl hl.1 rfl (lv_room (Nat.le_of_ble_eq_true rfl)) dX5_keepWork_25 ⟨by decide, by decide⟩) hP hD hK hS hA [1] [0, 2, 3] rfl rfl (by decide) (by decide) (fun v u H locs hw hP hD hK9 hS => ?_)
  have hw : v = some (.int 0) := hw
  subst hw
  have hP : va_P D vwCl [(h, .inr (4, [.ref fo, .int 0, .int 0, .ref mn, .ref df, .int 0, .ref bl, .int 0, .int 0, .int 1, .int 0, .ref tr, .ref wk, .ref sd])), (wc, .inl (cI, 512, .inl f)), (fo, .inl (cF, 1000, .inr (.inr (.inr (.inr (fun _ => none)))))), (wk, .inr (3, [.ref wc, .int 1, .int 0]))] H := hP
  have hD : va_D _ [(h, .inr (4, [.ref fo, .int 0, .int 0, .ref mn, .ref df, .int 0, .ref bl, .int 0, .int 0, .int 1, .int 0, .ref tr, .ref wk, .ref sd])), (wc, .inl (cI, 512, .inl f)), (fo, .inl (cF, 1000, .inr (.inr (.inr (.inr (fun _ => none)))))), (wk, .inr (3, [.ref wc, .int 1, .int 0]))] := hD
  refine W.eq (g2 := F0 m 28 ls [.int 0]) rfl ?_
  refine lv_if_eq (tgt := 42) hx hb dX5_keepWork_28 (by decide) (fun _ => ?_) (fun c9 => absurd (by decide) c9)
  refine lv_aload_n hx hb dX5_keepWork_42 rfl (lv_at hl 0 rfl) ?_
  refine va_get (ci := 4) (v := .ref fo) (C := RX5) (T := TX5) (N := 14) hx hb hts inG_X5 hown hK hP 0 rfl rfl 0 (by decide) (hts _ tw_1_117) (fun _ h9 => h9) rfl dX5_keepWork_43 ?_
  refine lv_aload_n hx hb dX5_keepWork_46 rfl (lv_at hl 0 rfl) ?_
  refine va_get (ci := 4) (v := .int 0) (C := RX5) (T := TX5) (N := 14) hx hb hts inG_X5 hown hK hP 0 rfl rfl 1 (by decide) (hts _ tw_1_118) (fun _ h9 => h9) rfl dX5_keepWork_47 ?_
  refine lv_aload_n hx hb dX5_keepWork_50 rfl (lv_at hl 0 rfl) ?_
  refine va_get (ci := 4) (v := .ref wk) (C := RX5) (T := TX5) (N := 14) hx hb hts inG_X5 hown hK hP 0 rfl rfl 12 (by decide) (hts _ tw_1_129) (fun _ h9 => h9) rfl dX5_keepWork_51 ?_
  refine ck_run (wr := [(h, .inr (4, [.ref fo, .int 0, .int 0, .ref mn, .ref df, .int 0, .ref bl, .int 0, .int 0, .int 1, .int 0, .ref tr, .ref wk, .ref sd])), (fo, .inl (cF, 1000, .inr (.inr (.inr (.inr (fun _ => none))))))]) (va_runV (C := RX4) (As := []) (rest := [.int 0, .ref fo]) ⟨hx, hb, hml, hown, hts⟩ (c_toForm l D H.size wk wc cI f) (cw_V (n := 0) hts tw_1_71 tw_1_72 tw_1_73 tw_1_3 tw_1_74 (by decide +kernel) ⟨by decide, by decide⟩) ⟨pre.blind, va_recv (q := (RX4, TX4, 3)) hK hP (ci := 3) (q0 := 3) rfl rfl, fun U hU hW => ⟨rfl, pre.of (wc := [(wk, .inr (3, [.ref wc, .int 1, .int 0])), (wc, .inl (cI, 512, .inl f))]) (tysc := [(cI, .int)]) (tk := [0]) hP hD hK hS hA hE hZ [3, 1] (by decide) rfl rfl rfl U hU hW⟩⟩ rfl rfl hl.1 rfl (lv_room (Nat.le_of_ble_eq_true rfl)) dX5_keepWork_54 ⟨by decide, by decide⟩) hP hD hK hS hA [3, 1] [0, 2] rfl rfl (by decide) (by decide) (fun v u H locs hw hP hD hK9 hS => ?_)
  obtain ⟨fq_1, q_2, cA_3, g_4, w_5, z_6⟩ := u
  have hw : v = some (.ref fq_1) := hw
  subst hw
  have hP : va_P D vwCl [(h, .inr (4, [.ref fo, .int 0, .int 0, .ref mn, .ref df, .int 0, .ref bl, .int 0, .int 0, .int 1, .int 0, .ref tr, .ref wk, .ref sd])), (fo, .inl (cF, 1000, .inr (.inr (.inr (.inr (fun _ => none)))))), (wk, .inr (3, [.ref wc, .int 1, .int 0])), (wc, .inl (cI, 512, .inl f)), (fq_1, .inr (1, [.ref q_2, .int w_5, .int z_6])), (q_2, .inl (cA_3, 1, .inl g_4))] H := hP
  have hD : va_D _ [(h, .inr (4, [.ref fo, .int 0, .int 0, .ref mn, .ref df, .int 0, .ref bl, .int 0, .int 0, .int 1, .int 0, .ref tr, .ref wk, .ref sd])), (fo, .inl (cF, 1000, .inr (.inr (.inr (.inr (fun _ => none)))))), (wk, .inr (3, [.ref wc, .int 1, .int 0])), (wc, .inl (cI, 512, .inl f)), (fq_1, .inr (1, [.ref q_2, .int w_5, .int z_6])), (q_2, .inl (cA_3, 1, .inl g_4))] := hD
  have hK : va_K D vwCl [(cI, .int), (cF, .object RX2), (cA_3, .int)] s := hK9.sub [0, 1, 3] rfl
  refine W.eq (g2 := F0 m 57 ls [.ref fq_1, .int 0, .ref fo]) rfl ?_
  refine va_astq (r := (RX2, TX2, 3)) hx hb hK hP hD hS 1 1 4 1 rfl rfl rfl rfl (vi (by decide)) dX5_keepWork_57 (fun H locs hP hD hS => ?_)
  have hP : va_P D vwCl [(h, .inr (4, [.ref fo, .int 0, .int 0, .ref mn, .ref df, .int 0, .ref bl, .int 0, .int 0, .int 1, .int 0, .ref tr, .ref wk, .ref sd])), (fo, .inl (cF, 1000, .inr (.inr (.inr (.inr (va_up (fun _ => none) ((0 : Int32).toNatClampNeg) (some fq_1))))))), (wk, .inr (3, [.ref wc, .int 1, .int 0])), (wc, .inl (cI, 512, .inl f)), (fq_1, .inr (1, [.ref q_2, .int w_5, .int z_6])), (q_2, .inl (cA_3, 1, .inl g_4))] H := hP
  have hD : va_D _ [(h, .inr (4, [.ref fo, .int 0, .int 0, .ref mn, .ref df, .int 0, .ref bl, .int 0, .int 0, .int 1, .int 0, .ref tr, .ref wk, .ref sd])), (fo, .inl (cF, 1000, .inr (.inr (.inr (.inr (va_up (fun _ => none) ((0 : Int32).toNatClampNeg) (some fq_1))))))), (wk, .inr (3, [.ref wc, .int 1, .int 0])), (wc, .inl (cI, 512, .inl f)), (fq_1, .inr (1, [.ref q_2, .int w_5, .int z_6])), (q_2, .inl (cA_3, 1, .inl g_4))] := hD
  refine lv_aload_n hx hb dX5_keepWork_58 rfl (lv_at hl 0 rfl) ?_
  refine lv_dup hx hb dX5_keepWork_59 rfl ?_
  refine va_get (ci := 4) (v := .int 0) (C := RX5) (T := TX5) (N := 14) hx hb hts inG_X5 hown hK hP 0 rfl rfl 1 (by decide) (hts _ tw_1_118) (fun _ h9 => h9) rfl dX5_keepWork_60 ?_
  refine lv_iconst (v := 1) hx hb dX5_keepWork_63 (by decide) ?_
  refine lv_iadd hx hb dX5_keepWork_64 ?_
  refine ck_top (y := 1) (by decide) ?_
  refine va_put (ci := 4) (v := .int 1) (ty := .int) (C := RX5) (T := TX5) (N := 14) hx hb hts inG_X5 tyX5 tyX5_ok nmX5 hown hK hP hD hS 0 rfl rfl 1 (by decide) (hts _ tw_1_118) (fun _ h9 => h9) rfl (by decide +kernel) rfl rfl (Nat.le_of_ble_eq_true rfl) dX5_keepWork_65 (fun H locs hP hD hS => ?_)
  have hP : va_P D vwCl [(h, .inr (4, [.ref fo, .int 1, .int 0, .ref mn, .ref df, .int 0, .ref bl, .int 0, .int 0, .int 1, .int 0, .ref tr, .ref wk, .ref sd])), (fo, .inl (cF, 1000, .inr (.inr (.inr (.inr (va_up (fun _ => none) ((0 : Int32).toNatClampNeg) (some fq_1))))))), (wk, .inr (3, [.ref wc, .int 1, .int 0])), (wc, .inl (cI, 512, .inl f)), (fq_1, .inr (1, [.ref q_2, .int w_5, .int z_6])), (q_2, .inl (cA_3, 1, .inl g_4))] H := hP
  have hD : va_D _ [(h, .inr (4, [.ref fo, .int 1, .int 0, .ref mn, .ref df, .int 0, .ref bl, .int 0, .int 0, .int 1, .int 0, .ref tr, .ref wk, .ref sd])), (fo, .inl (cF, 1000, .inr (.inr (.inr (.inr (va_up (fun _ => none) ((0 : Int32).toNatClampNeg) (some fq_1))))))), (wk, .inr (3, [.ref wc, .int 1, .int 0])), (wc, .inl (cI, 512, .inl f)), (fq_1, .inr (1, [.ref q_2, .int w_5, .int z_6])), (q_2, .inl (cA_3, 1, .inl g_4))] := hD
  refine lv_aload_n hx hb dX5_keepWork_68 rfl (lv_at hl 0 rfl) ?_
  refine va_get (ci := 4) (v := .int 1) (C := RX5) (T := TX5) (N := 14) hx hb hts inG_X5 hown hK hP 0 rfl rfl 1 (by decide) (hts _ tw_1_118) (fun _ h9 => h9) rfl dX5_keepWork_69 ?_
  refine lv_iconst (v := 1) hx hb dX5_keepWork_72 (by decide) ?_
  refine lv_isub hx hb dX5_keepWork_73 ?_
  refine ck_top (y := 0) (by decide) ?_
  exact ck_iret () hx hb hr rfl hlocks rfl (hP.sub [0] rfl) (hK.sub [] rfl) (hD.sub [0] (by decide) rfl) hS (by decide) (by decide) dX5_keepWork_74
set_option maxHeartbeats 4000000 in
set_option maxRecDepth 100000 in
theorem c_keepNew (l : Launch) (D : va_G) (sz : Nat) (h fo mn df bl tr wk sd : Nat) (wc : Nat) (cI cF : ClassId) (f : Nat → Int32) (z1 z2 : Int32) : cM l yX5_keepNewConstant (.code yX5_keepNewConstant cX5_keepNewConstant 2 (some .int)) 20 620 2 4 [.ref h] D [(cI, .int), (cF, .object RX2)] [(h, .inr (4, [.ref fo, .int 0, .int 0, .ref mn, .ref df, .int 0, .ref bl, .int 0, .int 0, .int 1, .int 0, .ref tr, .ref wk, .ref sd])), (wk, .inr (3, [.ref wc, .int z1, .int z2])), (wc, .inl (cI, 512, .inl f)), (fo, .inl (cF, 1000, .inr (.inr (.inr (.inr (fun _ => none))))))] sz (S := Unit) (fun v _ => v = some (.int 0)) (fun _ => []) (fun _ => []) := by
  refine cM_of (by decide) (Nat.le_of_ble_eq_true rfl) ?_
  intro p e s m below meth c ls hF hsz hP hK hD hE hZ hA hl
  obtain ⟨hx, hb, hr, hml, hown, hlocks, hnm, htb, hts⟩ := hF
  have hown : s.vm.findClass RX5 = some m.cls := hown
  have hl : lv_has ls 2 [(0, .ref h)] := hl
  have hS : va_S (va_A [(h, .inr (4, [.ref fo, .int 0, .int 0, .ref mn, .ref df, .int 0, .ref bl, .int 0, .int 0, .int 1, .int 0, .ref tr, .ref wk, .ref sd])), (wk, .inr (3, [.ref wc, .int z1, .int z2])), (wc, .inl (cI, 512, .inl f)), (fo, .inl (cF, 1000, .inr (.inr (.inr (.inr (fun _ => none))))))] sz) s.heap s.heap [] := va_S.rf
  refine lv_aload_n hx hb dX5_keepNewConstant_0 rfl (lv_at hl 0 rfl) ?_
  refine va_get (ci := 4) (v := .ref wk) (C := RX5) (T := TX5) (N := 14) hx hb hts inG_X5 hown hK hP 0 rfl rfl 12 (by decide) (hts _ tw_1_129) (fun _ h9 => h9) rfl dX5_keepNewConstant_1 ?_
  refine lv_iconst (v := 0) hx hb dX5_keepNewConstant_4 (by decide) ?_
  refine lv_aload_n hx hb dX5_keepNewConstant_5 rfl (lv_at hl 0 rfl) ?_
  refine va_get (ci := 4) (v := .int 0) (C := RX5) (T := TX5) (N := 14) hx hb hts inG_X5 hown hK hP 0 rfl rfl 2 (by decide) (hts _ tw_1_119) (fun _ h9 => h9) rfl dX5_keepNewConstant_6 ?_
  refine ck_run (wr := [(h, .inr (4, [.ref fo, .int 0, .int 0, .ref mn, .ref df, .int 0, .ref bl, .int 0, .int 0, .int 1, .int 0, .ref tr, .ref wk, .ref sd])), (wk, .inr (3, [.ref wc, .int z1, .int z2])), (wc, .inl (cI, 512, .inl f)), (fo, .inl (cF, 1000, .inr (.inr (.inr (.inr (fun _ => none))))))]) (va_runS (As := [.int 0, .int 0]) (rest := [.ref wk]) ⟨hx, hb, hml, hown, hts⟩ (c_of l D s.heap.size 0 0) (cw_S (n := 2) hts tw_2_59 tw_2_60 tw_1_8 tw_2_61 (by decide +kernel) ⟨by decide, by decide⟩) ⟨pre.blind, fun U hU hW => ⟨rfl, pre.of (wc := []) (tysc := []) (tk := []) hP hD hK hS hA hE hZ [] (by decide) rfl rfl rfl U hU hW⟩⟩ rfl rfl hl.1 rfl (lv_room (Nat.le_of_ble_eq_true rfl)) dX5_keepNewConstant_9 ⟨by decide, by decide⟩) hP hD hK hS hA [] [0, 1, 2, 3] rfl rfl (by decide) (by decide) (fun v u H locs hw hP hD hK9 hS => ?_)
  have hw : v = some (.int (0 <<< ((4 : Int32) &&& 31) ||| 0)) := hw
  subst hw
  have hP : va_P D vwCl [(h, .inr (4, [.ref fo, .int 0, .int 0, .ref mn, .ref df, .int 0, .ref bl, .int 0, .int 0, .int 1, .int 0, .ref tr, .ref wk, .ref sd])), (wk, .inr (3, [.ref wc, .int z1, .int z2])), (wc, .inl (cI, 512, .inl f)), (fo, .inl (cF, 1000, .inr (.inr (.inr (.inr (fun _ => none))))))] H := hP
  have hD : va_D _ [(h, .inr (4, [.ref fo, .int 0, .int 0, .ref mn, .ref df, .int 0, .ref bl, .int 0, .int 0, .int 1, .int 0, .ref tr, .ref wk, .ref sd])), (wk, .inr (3, [.ref wc, .int z1, .int z2])), (wc, .inl (cI, 512, .inl f)), (fo, .inl (cF, 1000, .inr (.inr (.inr (.inr (fun _ => none))))))] := hD
  refine W.eq (g2 := F0 m 12 ls [.int (0 <<< ((4 : Int32) &&& 31) ||| 0), .ref wk]) rfl ?_
  refine ck_run (wr := [(h, .inr (4, [.ref fo, .int 0, .int 0, .ref mn, .ref df, .int 0, .ref bl, .int 0, .int 0, .int 1, .int 0, .ref tr, .ref wk, .ref sd])), (fo, .inl (cF, 1000, .inr (.inr (.inr (.inr (fun _ => none))))))]) (va_runV (C := RX4) (As := [.int (0 <<< ((4 : Int32) &&& 31) ||| 0)]) (rest := []) ⟨hx, hb, hml, hown, hts⟩ (c_setOnly l D H.size wk wc cI f z1 z2 (0 <<< ((4 : Int32) &&& 31) ||| 0)) (cw_V (n := 1) hts tw_2_62 tw_2_63 tw_2_64 tw_1_3 tw_2_65 (by decide +kernel) ⟨by decide, by decide⟩) ⟨pre.blind, va_recv (q := (RX4, TX4, 3)) hK hP (ci := 3) (q0 := 1) rfl rfl, fun U hU hW => ⟨rfl, pre.of (wc := [(wk, .inr (3, [.ref wc, .int z1, .int z2])), (wc, .inl (cI, 512, .inl f))]) (tysc := [(cI, .int)]) (tk := [0]) hP hD hK hS hA hE hZ [1, 2] (by decide) rfl rfl rfl U hU hW⟩⟩ rfl rfl hl.1 rfl (lv_room (Nat.le_of_ble_eq_true rfl)) dX5_keepNewConstant_12 ⟨by decide, by decide⟩) hP hD hK hS hA [1, 2] [0, 3] rfl rfl (by decide) (by decide) (fun v u H locs hw hP hD hK9 hS => ?_)
  have hw : v = none := hw
  subst hw
  have hP : va_P D vwCl [(h, .inr (4, [.ref fo, .int 0, .int 0, .ref mn, .ref df, .int 0, .ref bl, .int 0, .int 0, .int 1, .int 0, .ref tr, .ref wk, .ref sd])), (fo, .inl (cF, 1000, .inr (.inr (.inr (.inr (fun _ => none)))))), (wk, .inr (3, [.ref wc, .int 1, .int 0])), (wc, .inl (cI, 512, .inl (upd f ((0 : Int32).toNatClampNeg) (0 <<< ((4 : Int32) &&& 31) ||| 0))))] H := hP
  have hD : va_D _ [(h, .inr (4, [.ref fo, .int 0, .int 0, .ref mn, .ref df, .int 0, .ref bl, .int 0, .int 0, .int 1, .int 0, .ref tr, .ref wk, .ref sd])), (fo, .inl (cF, 1000, .inr (.inr (.inr (.inr (fun _ => none)))))), (wk, .inr (3, [.ref wc, .int 1, .int 0])), (wc, .inl (cI, 512, .inl (upd f ((0 : Int32).toNatClampNeg) (0 <<< ((4 : Int32) &&& 31) ||| 0))))] := hD
  refine W.eq (g2 := F0 m 15 ls []) rfl ?_
  refine lv_aload_n hx hb dX5_keepNewConstant_15 rfl (lv_at hl 0 rfl) ?_
  refine ck_run (wr := []) (va_runV (C := RX5) (As := []) (rest := []) ⟨hx, hb, hml, hown, hts⟩ (c_keepWork l D H.size h fo mn df bl tr wk sd wc cI cF (upd f ((0 : Int32).toNatClampNeg) (0 <<< ((4 : Int32) &&& 31) ||| 0))) (cw_V (n := 0) hts tw_2_66 tw_2_68 tw_s6 tw_1_1 tw_2_69 (by decide +kernel) ⟨by decide, by decide⟩) ⟨pre.blind, va_recv (q := (RX5, TX5, 14)) hK hP (ci := 4) (q0 := 0) rfl rfl, fun U hU hW => ⟨rfl, pre.of (wc := [(h, .inr (4, [.ref fo, .int 0, .int 0, .ref mn, .ref df, .int 0, .ref bl, .int 0, .int 0, .int 1, .int 0, .ref tr, .ref wk, .ref sd])), (wk, .inr (3, [.ref wc, .int 1, .int 0])), (wc, .inl (cI, 512, .inl (upd f ((0 : Int32).toNatClampNeg) (0 <<< ((4 : Int32) &&& 31) ||| 0)))), (fo, .inl (cF, 1000, .inr (.inr (.inr (.inr (fun _ => none))))))]) (tysc := [(cI, .int), (cF, .object RX2)]) (tk := [0, 1]) hP hD hK hS hA hE hZ [0, 2, 3, 1] (by decide) rfl rfl rfl U hU hW⟩⟩ rfl rfl hl.1 rfl (lv_room (Nat.le_of_ble_eq_true rfl)) dX5_keepNewConstant_16 ⟨by decide, by decide⟩) hP hD hK hS hA [0, 2, 3, 1] [] rfl rfl (by decide) (by decide) (fun v u H locs hw hP hD hK9 hS => ?_)
  have hw : v = some (.int 0) := hw
  subst hw
  have hP : va_P D vwCl [(h, .inr (4, [.ref fo, .int 1, .int 0, .ref mn, .ref df, .int 0, .ref bl, .int 0, .int 0, .int 1, .int 0, .ref tr, .ref wk, .ref sd]))] H := hP
  have hD : va_D _ [(h, .inr (4, [.ref fo, .int 1, .int 0, .ref mn, .ref df, .int 0, .ref bl, .int 0, .int 0, .int 1, .int 0, .ref tr, .ref wk, .ref sd]))] := hD
  refine W.eq (g2 := F0 m 19 ls [.int 0]) rfl ?_
  refine lv_istore_n (lv' := [(1, .int 0), (0, .ref h)]) hx hb dX5_keepNewConstant_19 rfl hl (by decide) rfl (fun ls hl => ?_)
  refine lv_aload_n hx hb dX5_keepNewConstant_20 rfl (lv_at hl 1 rfl) ?_
  refine lv_dup hx hb dX5_keepNewConstant_21 rfl ?_
  refine va_get (ci := 4) (v := .int 0) (C := RX5) (T := TX5) (N := 14) hx hb hts inG_X5 hown hK hP 0 rfl rfl 2 (by decide) (hts _ tw_1_119) (fun _ h9 => h9) rfl dX5_keepNewConstant_22 ?_
  refine lv_iconst (v := 1) hx hb dX5_keepNewConstant_25 (by decide) ?_
  refine lv_iadd hx hb dX5_keepNewConstant_26 ?_
  refine ck_top (y := 1) (by decide) ?_
  refine va_put (ci := 4) (v := .int 1) (ty := .int) (C := RX5) (T := TX5) (N := 14) hx hb hts inG_X5 tyX5 tyX5_ok nmX5 hown hK hP hD hS 0 rfl rfl 2 (by decide) (hts _ tw_1_119) (fun _ h9 => h9) rfl (by decide +kernel) rfl rfl (Nat.le_of_ble_eq_true rfl) dX5_keepNewConstant_27 (fun H locs hP hD hS => ?_)
  have hP : va_P D vwCl [(h, .inr (4, [.ref fo, .int 1, .int 1, .ref mn, .ref df, .int 0, .ref bl, .int 0, .int 0, .int 1, .int 0, .ref tr, .ref wk, .ref sd]))] H := hP
  have hD : va_D _ [(h, .inr (4, [.ref fo, .int 1, .int 1, .ref mn, .ref df, .int 0, .ref bl, .int 0, .int 0, .int 1, .int 0, .ref tr, .ref wk, .ref sd]))] := hD
  refine lv_iload_n hx hb dX5_keepNewConstant_30 rfl (lv_at hl 0 rfl) ?_
  exact ck_iret () hx hb hr rfl hlocks rfl (hP.sub [] rfl) (hK.sub [] rfl) (hD.sub [] (by decide) rfl) hS (by decide) (by decide) dX5_keepNewConstant_31
set_option maxHeartbeats 4000000 in
set_option maxRecDepth 100000 in
theorem c_constant (l : Launch) (D : va_G) (sz : Nat) (h fo mn df bl tr wk sd : Nat) (wc : Nat) (cI cF : ClassId) (f : Nat → Int32) (z1 z2 : Int32) : cM l yX5_constant (.code yX5_constant cX5_constant 1 (some .int)) 24 760 2 4 [.ref h] D [(cI, .int), (cF, .object RX2)] [(h, .inr (4, [.ref fo, .int 0, .int 0, .ref mn, .ref df, .int 0, .ref bl, .int 0, .int 0, .int 1, .int 0, .ref tr, .ref wk, .ref sd])), (wk, .inr (3, [.ref wc, .int z1, .int z2])), (wc, .inl (cI, 512, .inl f)), (fo, .inl (cF, 1000, .inr (.inr (.inr (.inr (fun _ => none))))))] sz (S := Unit) (fun v _ => v = some (.int 0)) (fun _ => []) (fun _ => []) := by
  refine cM_of (by decide) (Nat.le_of_ble_eq_true rfl) ?_
  intro p e s m below meth c ls hF hsz hP hK hD hE hZ hA hl
  obtain ⟨hx, hb, hr, hml, hown, hlocks, hnm, htb, hts⟩ := hF
  have hown : s.vm.findClass RX5 = some m.cls := hown
  have hl : lv_has ls 1 [(0, .ref h)] := hl
  have hS : va_S (va_A [(h, .inr (4, [.ref fo, .int 0, .int 0, .ref mn, .ref df, .int 0, .ref bl, .int 0, .int 0, .int 1, .int 0, .ref tr, .ref wk, .ref sd])), (wk, .inr (3, [.ref wc, .int z1, .int z2])), (wc, .inl (cI, 512, .inl f)), (fo, .inl (cF, 1000, .inr (.inr (.inr (.inr (fun _ => none))))))] sz) s.heap s.heap [] := va_S.rf
  refine lv_aload_n hx hb dX5_constant_0 rfl (lv_at hl 0 rfl) ?_
  refine ck_run (wr := []) (va_runV (C := RX5) (As := []) (rest := []) ⟨hx, hb, hml, hown, hts⟩ (c_keepNew l D s.heap.size h fo mn df bl tr wk sd wc cI cF f z1 z2) (cw_V (n := 0) hts tw_2_55 tw_2_57 tw_s5 tw_1_1 tw_2_58 (by decide +kernel) ⟨by decide, by decide⟩) ⟨pre.blind, va_recv (q := (RX5, TX5, 14)) hK hP (ci := 4) (q0 := 0) rfl rfl, fun U hU hW => ⟨rfl, pre.of (wc := [(h, .inr (4, [.ref fo, .int 0, .int 0, .ref mn, .ref df, .int 0, .ref bl, .int 0, .int 0, .int 1, .int 0, .ref tr, .ref wk, .ref sd])), (wk, .inr (3, [.ref wc, .int z1, .int z2])), (wc, .inl (cI, 512, .inl f)), (fo, .inl (cF, 1000, .inr (.inr (.inr (.inr (fun _ => none))))))]) (tysc := [(cI, .int), (cF, .object RX2)]) (tk := [0, 1]) hP hD hK hS hA hE hZ [0, 1, 2, 3] (by decide) rfl rfl rfl U hU hW⟩⟩ rfl rfl hl.1 rfl (lv_room (Nat.le_of_ble_eq_true rfl)) dX5_constant_1 ⟨by decide, by decide⟩) hP hD hK hS hA [0, 1, 2, 3] [] rfl rfl (by decide) (by decide) (fun v u H locs hw hP hD hK9 hS => ?_)
  have hw : v = some (.int 0) := hw
  subst hw
  have hP : va_P D vwCl [] H := hP
  have hD : va_D _ [] := hD
  refine W.eq (g2 := F0 m 4 ls [.int 0]) rfl ?_
  exact ck_iret () hx hb hr rfl hlocks rfl (hP.sub [] rfl) (hK.sub [] rfl) (hD.sub [] (by decide) rfl) hS (by decide) (by decide) dX5_constant_4
set_option maxHeartbeats 4000000 in
set_option maxRecDepth 100000 in
theorem c_locus (l : Launch) (hl0 : l.stackTraces = false) (D : va_G) (sz : Nat) (h fo mn df bl tr wk sd : Nat) (wc : Nat) (cI cF : ClassId) (f : Nat → Int32) (z1 z2 : Int32) (x : Int32) : cX l yX5_locus (.code yX5_locus cX5_locus 2 (some .int)) 24 760 2 6 [.ref h, .int x] D [(cI, .int), (cF, .object RX2)] [(h, .inr (4, [.ref fo, .int 0, .int 0, .ref mn, .ref df, .int 0, .ref bl, .int 0, .int 0, .int 1, .int 0, .ref tr, .ref wk, .ref sd])), (wk, .inr (3, [.ref wc, .int z1, .int z2])), (wc, .inl (cI, 512, .inl f)), (fo, .inl (cF, 1000, .inr (.inr (.inr (.inr (fun _ => none))))))] sz (S := Unit) (fun v _ => v = some (.int 0) ∧ (¬ x < 0 ∧ x < 2)) (fun _ => []) (fun _ => []) (fun E => E = nIAE ∧ ¬ (¬ x < 0 ∧ x < 2)) := by
  refine cX_of (by decide) (Nat.le_of_ble_eq_true rfl) ?_
  intro p e s m below meth c ls hF hsz hP hK hD hE hZ hA hl
  obtain ⟨hx, hb, hr, hml, hown, hlocks, hnm, htb, hts⟩ := hF
  have hown : s.vm.findClass RX5 = some m.cls := hown
  have hl : lv_has ls 2 [(0, .ref h), (1, .int x)] := hl
  have hS : va_S (va_A [(h, .inr (4, [.ref fo, .int 0, .int 0, .ref mn, .ref df, .int 0, .ref bl, .int 0, .int 0, .int 1, .int 0, .ref tr, .ref wk, .ref sd])), (wk, .inr (3, [.ref wc, .int z1, .int z2])), (wc, .inl (cI, 512, .inl f)), (fo, .inl (cF, 1000, .inr (.inr (.inr (.inr (fun _ => none))))))] sz) s.heap s.heap [] := va_S.rf
  refine lv_iload_n hx hb dX5_locus_0 rfl (lv_at hl 1 rfl) ?_
  refine lv_if_lt (tgt := 9) hx hb dX5_locus_1 (by decide) (fun c_1 => ?_) (fun c_1 => ?_)
  · exact th_IAE hx hb hl0 hown hlocks htb hE hZ hS (hl.1.trans hml.symm) tn_2_83 sx_84 dX5_locus_9 dX5_locus_12 dX5_locus_13 dX5_locus_15 dX5_locus_18 (by decide) (Nat.le_of_ble_eq_true rfl) (Nat.le_of_ble_eq_true rfl) (Nat.le_of_ble_eq_true rfl) ⟨rfl, by first | exact fun g => g.1 c_1 | exact fun g => c_6 g.2⟩ (by decide) (by decide)
  · refine lv_iload_n hx hb dX5_locus_4 rfl (lv_at hl 1 rfl) ?_
    refine lv_iconst (v := 2) hx hb dX5_locus_5 (by decide) ?_
    refine lv_icmp_lt (tgt := 19) hx hb dX5_locus_6 (by decide) (fun c_6 => ?_) (fun c_6 => ?_)
    · refine lv_aload_n hx hb dX5_locus_19 rfl (lv_at hl 0 rfl) ?_
      refine va_get (ci := 4) (v := .ref wk) (C := RX5) (T := TX5) (N := 14) hx hb hts inG_X5 hown hK hP 0 rfl rfl 12 (by decide) (hts _ tw_1_129) (fun _ h9 => h9) rfl dX5_locus_20 ?_
      refine lv_iconst (v := 1) hx hb dX5_locus_23 (by decide) ?_
      refine lv_iload_n hx hb dX5_locus_24 rfl (lv_at hl 1 rfl) ?_
      refine ck_run (wr := [(h, .inr (4, [.ref fo, .int 0, .int 0, .ref mn, .ref df, .int 0, .ref bl, .int 0, .int 0, .int 1, .int 0, .ref tr, .ref wk, .ref sd])), (wk, .inr (3, [.ref wc, .int z1, .int z2])), (wc, .inl (cI, 512, .inl f)), (fo, .inl (cF, 1000, .inr (.inr (.inr (.inr (fun _ => none))))))]) (va_runS (As := [.int 1, .int x]) (rest := [.ref wk]) ⟨hx, hb, hml, hown, hts⟩ (c_of l D s.heap.size 1 x) (cw_S (n := 2) hts tw_2_59 tw_2_60 tw_1_8 tw_2_61 (by decide +kernel) ⟨by decide, by decide⟩) ⟨pre.blind, fun U hU hW => ⟨rfl, pre.of (wc := []) (tysc := []) (tk := []) hP hD hK hS hA hE hZ [] (by decide) rfl rfl rfl U hU hW⟩⟩ rfl rfl hl.1 rfl (lv_room (Nat.le_of_ble_eq_true rfl)) dX5_locus_25 ⟨by decide, by decide⟩) hP hD hK hS hA [] [0, 1, 2, 3] rfl rfl (by decide) (by decide) (fun v u H locs hw hP hD hK9 hS => ?_)
      have hw : v = some (.int (x <<< ((4 : Int32) &&& 31) ||| 1)) := hw
      subst hw
      have hP : va_P D vwCl [(h, .inr (4, [.ref fo, .int 0, .int 0, .ref mn, .ref df, .int 0, .ref bl, .int 0, .int 0, .int 1, .int 0, .ref tr, .ref wk, .ref sd])), (wk, .inr (3, [.ref wc, .int z1, .int z2])), (wc, .inl (cI, 512, .inl f)), (fo, .inl (cF, 1000, .inr (.inr (.inr (.inr (fun _ => none))))))] H := hP
      have hD : va_D _ [(h, .inr (4, [.ref fo, .int 0, .int 0, .ref mn, .ref df, .int 0, .ref bl, .int 0, .int 0, .int 1, .int 0, .ref tr, .ref wk, .ref sd])), (wk, .inr (3, [.ref wc, .int z1, .int z2])), (wc, .inl (cI, 512, .inl f)), (fo, .inl (cF, 1000, .inr (.inr (.inr (.inr (fun _ => none))))))] := hD
      refine W.eq (g2 := F0 m 28 ls [.int (x <<< ((4 : Int32) &&& 31) ||| 1), .ref wk]) rfl ?_
      refine ck_run (wr := [(h, .inr (4, [.ref fo, .int 0, .int 0, .ref mn, .ref df, .int 0, .ref bl, .int 0, .int 0, .int 1, .int 0, .ref tr, .ref wk, .ref sd])), (fo, .inl (cF, 1000, .inr (.inr (.inr (.inr (fun _ => none))))))]) (va_runV (C := RX4) (As := [.int (x <<< ((4 : Int32) &&& 31) ||| 1)]) (rest := []) ⟨hx, hb, hml, hown, hts⟩ (c_setOnly l D H.size wk wc cI f z1 z2 (x <<< ((4 : Int32) &&& 31) ||| 1)) (cw_V (n := 1) hts tw_2_62 tw_2_63 tw_2_64 tw_1_3 tw_2_65 (by decide +kernel) ⟨by decide, by decide⟩) ⟨pre.blind, va_recv (q := (RX4, TX4, 3)) hK hP (ci := 3) (q0 := 1) rfl rfl, fun U hU hW => ⟨rfl, pre.of (wc := [(wk, .inr (3, [.ref wc, .int z1, .int z2])), (wc, .inl (cI, 512, .inl f))]) (tysc := [(cI, .int)]) (tk := [0]) hP hD hK hS hA hE hZ [1, 2] (by decide) rfl rfl rfl U hU hW⟩⟩ rfl rfl hl.1 rfl (lv_room (Nat.le_of_ble_eq_true rfl)) dX5_locus_28 ⟨by decide, by decide⟩) hP hD hK hS hA [1, 2] [0, 3] rfl rfl (by decide) (by decide) (fun v u H locs hw hP hD hK9 hS => ?_)
      have hw : v = none := hw
      subst hw
      have hP : va_P D vwCl [(h, .inr (4, [.ref fo, .int 0, .int 0, .ref mn, .ref df, .int 0, .ref bl, .int 0, .int 0, .int 1, .int 0, .ref tr, .ref wk, .ref sd])), (fo, .inl (cF, 1000, .inr (.inr (.inr (.inr (fun _ => none)))))), (wk, .inr (3, [.ref wc, .int 1, .int 0])), (wc, .inl (cI, 512, .inl (upd f ((0 : Int32).toNatClampNeg) (x <<< ((4 : Int32) &&& 31) ||| 1))))] H := hP
      have hD : va_D _ [(h, .inr (4, [.ref fo, .int 0, .int 0, .ref mn, .ref df, .int 0, .ref bl, .int 0, .int 0, .int 1, .int 0, .ref tr, .ref wk, .ref sd])), (fo, .inl (cF, 1000, .inr (.inr (.inr (.inr (fun _ => none)))))), (wk, .inr (3, [.ref wc, .int 1, .int 0])), (wc, .inl (cI, 512, .inl (upd f ((0 : Int32).toNatClampNeg) (x <<< ((4 : Int32) &&& 31) ||| 1))))] := hD
      refine W.eq (g2 := F0 m 31 ls []) rfl ?_
      refine lv_aload_n hx hb dX5_locus_31 rfl (lv_at hl 0 rfl) ?_
      refine ck_run (wr := []) (va_runV (C := RX5) (As := []) (rest := []) ⟨hx, hb, hml, hown, hts⟩ (c_keepWork l D H.size h fo mn df bl tr wk sd wc cI cF (upd f ((0 : Int32).toNatClampNeg) (x <<< ((4 : Int32) &&& 31) ||| 1))) (cw_V (n := 0) hts tw_2_66 tw_2_68 tw_s6 tw_1_1 tw_2_69 (by decide +kernel) ⟨by decide, by decide⟩) ⟨pre.blind, va_recv (q := (RX5, TX5, 14)) hK hP (ci := 4) (q0 := 0) rfl rfl, fun U hU hW => ⟨rfl, pre.of (wc := [(h, .inr (4, [.ref fo, .int 0, .int 0, .ref mn, .ref df, .int 0, .ref bl, .int 0, .int 0, .int 1, .int 0, .ref tr, .ref wk, .ref sd])), (wk, .inr (3, [.ref wc, .int 1, .int 0])), (wc, .inl (cI, 512, .inl (upd f ((0 : Int32).toNatClampNeg) (x <<< ((4 : Int32) &&& 31) ||| 1)))), (fo, .inl (cF, 1000, .inr (.inr (.inr (.inr (fun _ => none))))))]) (tysc := [(cI, .int), (cF, .object RX2)]) (tk := [0, 1]) hP hD hK hS hA hE hZ [0, 2, 3, 1] (by decide) rfl rfl rfl U hU hW⟩⟩ rfl rfl hl.1 rfl (lv_room (Nat.le_of_ble_eq_true rfl)) dX5_locus_32 ⟨by decide, by decide⟩) hP hD hK hS hA [0, 2, 3, 1] [] rfl rfl (by decide) (by decide) (fun v u H locs hw hP hD hK9 hS => ?_)
      have hw : v = some (.int 0) := hw
      subst hw
      have hP : va_P D vwCl [(h, .inr (4, [.ref fo, .int 1, .int 0, .ref mn, .ref df, .int 0, .ref bl, .int 0, .int 0, .int 1, .int 0, .ref tr, .ref wk, .ref sd]))] H := hP
      have hD : va_D _ [(h, .inr (4, [.ref fo, .int 1, .int 0, .ref mn, .ref df, .int 0, .ref bl, .int 0, .int 0, .int 1, .int 0, .ref tr, .ref wk, .ref sd]))] := hD
      refine W.eq (g2 := F0 m 35 ls [.int 0]) rfl ?_
      exact vx_ret (ck_iret () hx hb hr rfl hlocks ⟨rfl, ⟨c_1, c_6⟩⟩ (hP.sub [] rfl) (hK.sub [] rfl) (hD.sub [] (by decide) rfl) hS (by decide) (by decide) dX5_locus_35)
    · exact th_IAE hx hb hl0 hown hlocks htb hE hZ hS (hl.1.trans hml.symm) tn_2_83 sx_84 dX5_locus_9 dX5_locus_12 dX5_locus_13 dX5_locus_15 dX5_locus_18 (by decide) (Nat.le_of_ble_eq_true rfl) (Nat.le_of_ble_eq_true rfl) (Nat.le_of_ble_eq_true rfl) ⟨rfl, by first | exact fun g => g.1 c_1 | exact fun g => c_6 g.2⟩ (by decide) (by decide)
set_option maxHeartbeats 4000000 in
set_option maxRecDepth 100000 in
theorem c_jiw (l : Launch) (D : va_G) (sz : Nat) (h fo mn df bl tr wk sd : Nat) (wc : Nat) (cI cF : ClassId) (f : Nat → Int32) (z1 z2 : Int32) : cM l yX5_joinIntoWork (.code yX5_joinIntoWork cX5_joinIntoWork 4 none) 20 620 0 0 [.ref h, .int 5, .null, .null] D [(cI, .int)] [(h, .inr (4, [.ref fo, .int 0, .int 0, .ref mn, .ref df, .int 0, .ref bl, .int 0, .int 0, .int 1, .int 0, .ref tr, .ref wk, .ref sd])), (wk, .inr (3, [.ref wc, .int z1, .int z2])), (wc, .inl (cI, 512, .inl f))] sz (S := Unit) (fun v _ => v = none) (fun _ => [(h, .inr (4, [.ref fo, .int 0, .int 0, .ref mn, .ref df, .int 0, .ref bl, .int 0, .int 0, .int 1, .int 0, .ref tr, .ref wk, .ref sd])), (wk, .inr (3, [.ref wc, .int 1, .int 0])), (wc, .inl (cI, 512, .inl (upd f ((0 : Int32).toNatClampNeg) 3)))]) (fun _ => [(cI, .int)]) := by
  refine cM_of (by decide) (Nat.le_of_ble_eq_true rfl) ?_
  intro p e s m below meth c ls hF hsz hP hK hD hE hZ hA hl
  obtain ⟨hx, hb, hr, hml, hown, hlocks, hnm, htb, hts⟩ := hF
  have hown : s.vm.findClass RX5 = some m.cls := hown
  have hl : lv_has ls 4 [(0, .ref h), (1, .int 5), (2, .null), (3, .null)] := hl
  have hS : va_S (va_A [(h, .inr (4, [.ref fo, .int 0, .int 0, .ref mn, .ref df, .int 0, .ref bl, .int 0, .int 0, .int 1, .int 0, .ref tr, .ref wk, .ref sd])), (wk, .inr (3, [.ref wc, .int z1, .int z2])), (wc, .inl (cI, 512, .inl f))] sz) s.heap s.heap [] := va_S.rf
  refine lv_iload_n hx hb dX5_joinIntoWork_0 rfl (lv_at hl 1 rfl) ?_
  refine lv_tableOut (tgt := 168) hx hb dX5_joinIntoWork_1 (Or.inr (by decide)) (by decide) ?_
  refine lv_aload_n hx hb dX5_joinIntoWork_168 rfl (lv_at hl 0 rfl) ?_
  refine va_get (ci := 4) (v := .ref wk) (C := RX5) (T := TX5) (N := 14) hx hb hts inG_X5 hown hK hP 0 rfl rfl 12 (by decide) (hts _ tw_1_129) (fun _ h9 => h9) rfl dX5_joinIntoWork_169 ?_
  refine lv_iconst (v := 3) hx hb dX5_joinIntoWork_172 (by decide) ?_
  refine ck_run (wr := [(h, .inr (4, [.ref fo, .int 0, .int 0, .ref mn, .ref df, .int 0, .ref bl, .int 0, .int 0, .int 1, .int 0, .ref tr, .ref wk, .ref sd]))]) (va_runV (C := RX4) (As := [.int 3]) (rest := []) ⟨hx, hb, hml, hown, hts⟩ (c_setOnly l D s.heap.size wk wc cI f z1 z2 3) (cw_V (n := 1) hts tw_2_62 tw_2_63 tw_2_64 tw_1_3 tw_2_65 (by decide +kernel) ⟨by decide, by decide⟩) ⟨pre.blind, va_recv (q := (RX4, TX4, 3)) hK hP (ci := 3) (q0 := 1) rfl rfl, fun U hU hW => ⟨rfl, pre.of (wc := [(wk, .inr (3, [.ref wc, .int z1, .int z2])), (wc, .inl (cI, 512, .inl f))]) (tysc := [(cI, .int)]) (tk := [0]) hP hD hK hS hA hE hZ [1, 2] (by decide) rfl rfl rfl U hU hW⟩⟩ rfl rfl hl.1 rfl (lv_room (Nat.le_of_ble_eq_true rfl)) dX5_joinIntoWork_173 ⟨by decide, by decide⟩) hP hD hK hS hA [1, 2] [0] rfl rfl (by decide) (by decide) (fun v u H locs hw hP hD hK9 hS => ?_)
  have hw : v = none := hw
  subst hw
  have hP : va_P D vwCl [(h, .inr (4, [.ref fo, .int 0, .int 0, .ref mn, .ref df, .int 0, .ref bl, .int 0, .int 0, .int 1, .int 0, .ref tr, .ref wk, .ref sd])), (wk, .inr (3, [.ref wc, .int 1, .int 0])), (wc, .inl (cI, 512, .inl (upd f ((0 : Int32).toNatClampNeg) 3)))] H := hP
  have hD : va_D _ [(h, .inr (4, [.ref fo, .int 0, .int 0, .ref mn, .ref df, .int 0, .ref bl, .int 0, .int 0, .int 1, .int 0, .ref tr, .ref wk, .ref sd])), (wk, .inr (3, [.ref wc, .int 1, .int 0])), (wc, .inl (cI, 512, .inl (upd f ((0 : Int32).toNatClampNeg) 3)))] := hD
  refine W.eq (g2 := F0 m 176 ls []) rfl ?_
  exact ck_vret () hx hb hr hlocks rfl (hP.sub [0, 1, 2] rfl) (hK.sub [0] rfl) (hD.sub [0, 1, 2] (by decide) rfl) hS (by decide) (by decide) dX5_joinIntoWork_176
set_option maxHeartbeats 4000000 in
set_option maxRecDepth 100000 in
theorem c_join (l : Launch) (hl0 : l.stackTraces = false) (D : va_G) (sz : Nat) (h fo mn df bl tr wk sd : Nat) (wc : Nat) (cI cF : ClassId) (f : Nat → Int32) (z1 z2 : Int32) (x y z : Int32) : cX l yX5_join (.code yX5_join cX5_join 4 (some .int)) 24 760 2 6 [.ref h, .int x, .int y, .int z] D [(cI, .int), (cF, .object RX2)] [(h, .inr (4, [.ref fo, .int 0, .int 0, .ref mn, .ref df, .int 0, .ref bl, .int 0, .int 0, .int 1, .int 0, .ref tr, .ref wk, .ref sd])), (wk, .inr (3, [.ref wc, .int z1, .int z2])), (wc, .inl (cI, 512, .inl f)), (fo, .inl (cF, 1000, .inr (.inr (.inr (.inr (fun _ => none))))))] sz (S := Unit) (fun v _ => v = some (.int 0) ∧ (x = 5 ∧ y = (-1) ∧ z = (-1))) (fun _ => []) (fun _ => []) (fun E => E = nIAE ∧ ¬ (x = 5 ∧ y = (-1) ∧ z = (-1))) := by
  refine cX_of (by decide) (Nat.le_of_ble_eq_true rfl) ?_
  intro p e s m below meth c ls hF hsz hP hK hD hE hZ hA hl
  obtain ⟨hx, hb, hr, hml, hown, hlocks, hnm, htb, hts⟩ := hF
  have hown : s.vm.findClass RX5 = some m.cls := hown
  have hl : lv_has ls 4 [(0, .ref h), (1, .int x), (2, .int y), (3, .int z)] := hl
  have hS : va_S (va_A [(h, .inr (4, [.ref fo, .int 0, .int 0, .ref mn, .ref df, .int 0, .ref bl, .int 0, .int 0, .int 1, .int 0, .ref tr, .ref wk, .ref sd])), (wk, .inr (3, [.ref wc, .int z1, .int z2])), (wc, .inl (cI, 512, .inl f)), (fo, .inl (cF, 1000, .inr (.inr (.inr (.inr (fun _ => none))))))] sz) s.heap s.heap [] := va_S.rf
  by_cases hk : x = 5
  · subst hk
    refine lv_iload_n hx hb dX5_join_0 rfl (lv_at hl 1 rfl) ?_
    refine lv_if_lt (tgt := 9) hx hb dX5_join_1 (by decide) (fun c9 => absurd c9 (by decide)) (fun _ => ?_)
    refine lv_iload_n hx hb dX5_join_4 rfl (lv_at hl 1 rfl) ?_
    refine lv_iconst (v := 5) hx hb dX5_join_5 (by decide) ?_
    refine lv_icmp_le (tgt := 19) hx hb dX5_join_6 (by decide) (fun _ => ?_) (fun c9 => absurd (by decide) c9)
    refine lv_aload_n hx hb dX5_join_19 rfl (lv_at hl 0 rfl) ?_
    refine lv_iload_n hx hb dX5_join_20 rfl (lv_at hl 2 rfl) ?_
    refine lv_iload_n hx hb dX5_join_21 rfl (lv_at hl 1 rfl) ?_
    refine lv_iconst (v := 5) hx hb dX5_join_22 (by decide) ?_
    refine lv_icmp_eq (tgt := 30) hx hb dX5_join_23 (by decide) (fun _ => ?_) (fun c9 => absurd (by decide) c9)
    refine lv_iconst (v := 0) hx hb dX5_join_30 (by decide) ?_
    by_cases hy : y = (-1)
    · subst hy
      refine ck_run (wr := [(wk, .inr (3, [.ref wc, .int z1, .int z2])), (wc, .inl (cI, 512, .inl f)), (fo, .inl (cF, 1000, .inr (.inr (.inr (.inr (fun _ => none))))))]) (va_runV (C := RX5) (As := [.int (-1), .int 0]) (rest := []) ⟨hx, hb, hml, hown, hts⟩ (c_isFN0y l D s.heap.size h fo mn df bl tr wk sd) (cw_V (n := 2) hts tw_2_122 tw_2_124 tw_s10 tw_1_1 tw_2_125 (by decide +kernel) ⟨by decide, by decide⟩) ⟨pre.blind, va_recv (q := (RX5, TX5, 14)) hK hP (ci := 4) (q0 := 0) rfl rfl, fun U hU hW => ⟨rfl, pre.of (wc := [(h, .inr (4, [.ref fo, .int 0, .int 0, .ref mn, .ref df, .int 0, .ref bl, .int 0, .int 0, .int 1, .int 0, .ref tr, .ref wk, .ref sd]))]) (tysc := []) (tk := []) hP hD hK hS hA hE hZ [0] (by decide) rfl rfl rfl U hU hW⟩⟩ rfl rfl hl.1 rfl (lv_room (Nat.le_of_ble_eq_true rfl)) dX5_join_31 ⟨by decide, by decide⟩) hP hD hK hS hA [0] [1, 2, 3] rfl rfl (by decide) (by decide) (fun v u H locs hw hP hD hK9 hS => ?_)
      have hw : v = some (.int 1) := hw
      subst hw
      have hP : va_P D vwCl [(wk, .inr (3, [.ref wc, .int z1, .int z2])), (wc, .inl (cI, 512, .inl f)), (fo, .inl (cF, 1000, .inr (.inr (.inr (.inr (fun _ => none)))))), (h, .inr (4, [.ref fo, .int 0, .int 0, .ref mn, .ref df, .int 0, .ref bl, .int 0, .int 0, .int 1, .int 0, .ref tr, .ref wk, .ref sd]))] H := hP
      have hD : va_D _ [(wk, .inr (3, [.ref wc, .int z1, .int z2])), (wc, .inl (cI, 512, .inl f)), (fo, .inl (cF, 1000, .inr (.inr (.inr (.inr (fun _ => none)))))), (h, .inr (4, [.ref fo, .int 0, .int 0, .ref mn, .ref df, .int 0, .ref bl, .int 0, .int 0, .int 1, .int 0, .ref tr, .ref wk, .ref sd]))] := hD
      refine W.eq (g2 := F0 m 34 ls [.int 1]) rfl ?_
      refine lv_if_eq (tgt := 59) hx hb dX5_join_34 (by decide) (fun c9 => absurd c9 (by decide)) (fun _ => ?_)
      refine lv_aload_n hx hb dX5_join_37 rfl (lv_at hl 0 rfl) ?_
      refine lv_iload_n hx hb dX5_join_38 rfl (lv_at hl 3 rfl) ?_
      refine lv_iload_n hx hb dX5_join_39 rfl (lv_at hl 1 rfl) ?_
      refine lv_iconst (v := 5) hx hb dX5_join_40 (by decide) ?_
      refine lv_icmp_eq (tgt := 52) hx hb dX5_join_41 (by decide) (fun _ => ?_) (fun c9 => absurd (by decide) c9)
      refine lv_iconst (v := 0) hx hb dX5_join_52 (by decide) ?_
      by_cases hz : z = (-1)
      · subst hz
        refine ck_run (wr := [(wk, .inr (3, [.ref wc, .int z1, .int z2])), (wc, .inl (cI, 512, .inl f)), (fo, .inl (cF, 1000, .inr (.inr (.inr (.inr (fun _ => none))))))]) (va_runV (C := RX5) (As := [.int (-1), .int 0]) (rest := []) ⟨hx, hb, hml, hown, hts⟩ (c_isFN0y l D H.size h fo mn df bl tr wk sd) (cw_V (n := 2) hts tw_2_122 tw_2_124 tw_s10 tw_1_1 tw_2_125 (by decide +kernel) ⟨by decide, by decide⟩) ⟨pre.blind, va_recv (q := (RX5, TX5, 14)) hK hP (ci := 4) (q0 := 3) rfl rfl, fun U hU hW => ⟨rfl, pre.of (wc := [(h, .inr (4, [.ref fo, .int 0, .int 0, .ref mn, .ref df, .int 0, .ref bl, .int 0, .int 0, .int 1, .int 0, .ref tr, .ref wk, .ref sd]))]) (tysc := []) (tk := []) hP hD hK hS hA hE hZ [3] (by decide) rfl rfl rfl U hU hW⟩⟩ rfl rfl hl.1 rfl (lv_room (Nat.le_of_ble_eq_true rfl)) dX5_join_53 ⟨by decide, by decide⟩) hP hD hK hS hA [3] [0, 1, 2] rfl rfl (by decide) (by decide) (fun v u H locs hw hP hD hK9 hS => ?_)
        have hw : v = some (.int 1) := hw
        subst hw
        have hP : va_P D vwCl [(wk, .inr (3, [.ref wc, .int z1, .int z2])), (wc, .inl (cI, 512, .inl f)), (fo, .inl (cF, 1000, .inr (.inr (.inr (.inr (fun _ => none)))))), (h, .inr (4, [.ref fo, .int 0, .int 0, .ref mn, .ref df, .int 0, .ref bl, .int 0, .int 0, .int 1, .int 0, .ref tr, .ref wk, .ref sd]))] H := hP
        have hD : va_D _ [(wk, .inr (3, [.ref wc, .int z1, .int z2])), (wc, .inl (cI, 512, .inl f)), (fo, .inl (cF, 1000, .inr (.inr (.inr (.inr (fun _ => none)))))), (h, .inr (4, [.ref fo, .int 0, .int 0, .ref mn, .ref df, .int 0, .ref bl, .int 0, .int 0, .int 1, .int 0, .ref tr, .ref wk, .ref sd]))] := hD
        refine W.eq (g2 := F0 m 56 ls [.int 1]) rfl ?_
        refine lv_if_ne (tgt := 69) hx hb dX5_join_56 (by decide) (fun _ => ?_) (fun c9 => absurd c9 (by decide))
        refine lv_aload_n hx hb dX5_join_69 rfl (lv_at hl 0 rfl) ?_
        refine lv_iload_n hx hb dX5_join_70 rfl (lv_at hl 1 rfl) ?_
        refine lv_aload_n hx hb dX5_join_71 rfl (lv_at hl 0 rfl) ?_
        refine lv_iload_n hx hb dX5_join_72 rfl (lv_at hl 2 rfl) ?_
        refine ck_run (wr := [(wk, .inr (3, [.ref wc, .int z1, .int z2])), (wc, .inl (cI, 512, .inl f)), (fo, .inl (cF, 1000, .inr (.inr (.inr (.inr (fun _ => none))))))]) (va_runV (C := RX5) (As := [.int (-1)]) (rest := [.int 5, .ref h]) ⟨hx, hb, hml, hown, hts⟩ (c_formulaAt l D H.size h fo mn df bl tr wk sd (-1)) (cw_V (n := 1) hts tw_2_23 tw_2_25 tw_s1 tw_1_1 tw_2_26 (by decide +kernel) ⟨by decide, by decide⟩) ⟨pre.blind, va_recv (q := (RX5, TX5, 14)) hK hP (ci := 4) (q0 := 3) rfl rfl, fun U hU hW => ⟨rfl, pre.of (wc := [(h, .inr (4, [.ref fo, .int 0, .int 0, .ref mn, .ref df, .int 0, .ref bl, .int 0, .int 0, .int 1, .int 0, .ref tr, .ref wk, .ref sd]))]) (tysc := []) (tk := []) hP hD hK hS hA hE hZ [3] (by decide) rfl rfl rfl U hU hW⟩⟩ rfl rfl hl.1 rfl (lv_room (Nat.le_of_ble_eq_true rfl)) dX5_join_73 ⟨by decide, by decide⟩) hP hD hK hS hA [3] [0, 1, 2] rfl rfl (by decide) (by decide) (fun v u H locs hw hP hD hK9 hS => ?_)
        have hw : v = some (.null) := hw
        subst hw
        have hP : va_P D vwCl [(wk, .inr (3, [.ref wc, .int z1, .int z2])), (wc, .inl (cI, 512, .inl f)), (fo, .inl (cF, 1000, .inr (.inr (.inr (.inr (fun _ => none)))))), (h, .inr (4, [.ref fo, .int 0, .int 0, .ref mn, .ref df, .int 0, .ref bl, .int 0, .int 0, .int 1, .int 0, .ref tr, .ref wk, .ref sd]))] H := hP
        have hD : va_D _ [(wk, .inr (3, [.ref wc, .int z1, .int z2])), (wc, .inl (cI, 512, .inl f)), (fo, .inl (cF, 1000, .inr (.inr (.inr (.inr (fun _ => none)))))), (h, .inr (4, [.ref fo, .int 0, .int 0, .ref mn, .ref df, .int 0, .ref bl, .int 0, .int 0, .int 1, .int 0, .ref tr, .ref wk, .ref sd]))] := hD
        refine W.eq (g2 := F0 m 76 ls [.null, .int 5, .ref h]) rfl ?_
        refine lv_aload_n hx hb dX5_join_76 rfl (lv_at hl 0 rfl) ?_
        refine lv_iload_n hx hb dX5_join_77 rfl (lv_at hl 3 rfl) ?_
        refine ck_run (wr := [(wk, .inr (3, [.ref wc, .int z1, .int z2])), (wc, .inl (cI, 512, .inl f)), (fo, .inl (cF, 1000, .inr (.inr (.inr (.inr (fun _ => none))))))]) (va_runV (C := RX5) (As := [.int (-1)]) (rest := [.null, .int 5, .ref h]) ⟨hx, hb, hml, hown, hts⟩ (c_formulaAt l D H.size h fo mn df bl tr wk sd (-1)) (cw_V (n := 1) hts tw_2_23 tw_2_25 tw_s1 tw_1_1 tw_2_26 (by decide +kernel) ⟨by decide, by decide⟩) ⟨pre.blind, va_recv (q := (RX5, TX5, 14)) hK hP (ci := 4) (q0 := 3) rfl rfl, fun U hU hW => ⟨rfl, pre.of (wc := [(h, .inr (4, [.ref fo, .int 0, .int 0, .ref mn, .ref df, .int 0, .ref bl, .int 0, .int 0, .int 1, .int 0, .ref tr, .ref wk, .ref sd]))]) (tysc := []) (tk := []) hP hD hK hS hA hE hZ [3] (by decide) rfl rfl rfl U hU hW⟩⟩ rfl rfl hl.1 rfl (lv_room (Nat.le_of_ble_eq_true rfl)) dX5_join_78 ⟨by decide, by decide⟩) hP hD hK hS hA [3] [0, 1, 2] rfl rfl (by decide) (by decide) (fun v u H locs hw hP hD hK9 hS => ?_)
        have hw : v = some (.null) := hw
        subst hw
        have hP : va_P D vwCl [(wk, .inr (3, [.ref wc, .int z1, .int z2])), (wc, .inl (cI, 512, .inl f)), (fo, .inl (cF, 1000, .inr (.inr (.inr (.inr (fun _ => none)))))), (h, .inr (4, [.ref fo, .int 0, .int 0, .ref mn, .ref df, .int 0, .ref bl, .int 0, .int 0, .int 1, .int 0, .ref tr, .ref wk, .ref sd]))] H := hP
        have hD : va_D _ [(wk, .inr (3, [.ref wc, .int z1, .int z2])), (wc, .inl (cI, 512, .inl f)), (fo, .inl (cF, 1000, .inr (.inr (.inr (.inr (fun _ => none)))))), (h, .inr (4, [.ref fo, .int 0, .int 0, .ref mn, .ref df, .int 0, .ref bl, .int 0, .int 0, .int 1, .int 0, .ref tr, .ref wk, .ref sd]))] := hD
        refine W.eq (g2 := F0 m 81 ls [.null, .null, .int 5, .ref h]) rfl ?_
        refine ck_run (wr := [(fo, .inl (cF, 1000, .inr (.inr (.inr (.inr (fun _ => none))))))]) (va_runV (C := RX5) (As := [.int 5, .null, .null]) (rest := []) ⟨hx, hb, hml, hown, hts⟩ (c_jiw l D H.size h fo mn df bl tr wk sd wc cI cF f z1 z2) (cw_V (n := 3) hts tw_2_127 tw_2_129 tw_s11 tw_1_1 tw_2_130 (by decide +kernel) ⟨by decide, by decide⟩) ⟨pre.blind, va_recv (q := (RX5, TX5, 14)) hK hP (ci := 4) (q0 := 3) rfl rfl, fun U hU hW => ⟨rfl, pre.of (wc := [(h, .inr (4, [.ref fo, .int 0, .int 0, .ref mn, .ref df, .int 0, .ref bl, .int 0, .int 0, .int 1, .int 0, .ref tr, .ref wk, .ref sd])), (wk, .inr (3, [.ref wc, .int z1, .int z2])), (wc, .inl (cI, 512, .inl f))]) (tysc := [(cI, .int)]) (tk := [0]) hP hD hK hS hA hE hZ [3, 0, 1] (by decide) rfl rfl rfl U hU hW⟩⟩ rfl rfl hl.1 rfl (lv_room (Nat.le_of_ble_eq_true rfl)) dX5_join_81 ⟨by decide, by decide⟩) hP hD hK hS hA [3, 0, 1] [2] rfl rfl (by decide) (by decide) (fun v u H locs hw hP hD hK9 hS => ?_)
        have hw : v = none := hw
        subst hw
        have hP : va_P D vwCl [(fo, .inl (cF, 1000, .inr (.inr (.inr (.inr (fun _ => none)))))), (h, .inr (4, [.ref fo, .int 0, .int 0, .ref mn, .ref df, .int 0, .ref bl, .int 0, .int 0, .int 1, .int 0, .ref tr, .ref wk, .ref sd])), (wk, .inr (3, [.ref wc, .int 1, .int 0])), (wc, .inl (cI, 512, .inl (upd f ((0 : Int32).toNatClampNeg) 3)))] H := hP
        have hD : va_D _ [(fo, .inl (cF, 1000, .inr (.inr (.inr (.inr (fun _ => none)))))), (h, .inr (4, [.ref fo, .int 0, .int 0, .ref mn, .ref df, .int 0, .ref bl, .int 0, .int 0, .int 1, .int 0, .ref tr, .ref wk, .ref sd])), (wk, .inr (3, [.ref wc, .int 1, .int 0])), (wc, .inl (cI, 512, .inl (upd f ((0 : Int32).toNatClampNeg) 3)))] := hD
        refine W.eq (g2 := F0 m 84 ls []) rfl ?_
        refine lv_aload_n hx hb dX5_join_84 rfl (lv_at hl 0 rfl) ?_
        refine ck_run (wr := []) (va_runV (C := RX5) (As := []) (rest := []) ⟨hx, hb, hml, hown, hts⟩ (c_keepWork l D H.size h fo mn df bl tr wk sd wc cI cF (upd f ((0 : Int32).toNatClampNeg) 3)) (cw_V (n := 0) hts tw_2_66 tw_2_68 tw_s6 tw_1_1 tw_2_69 (by decide +kernel) ⟨by decide, by decide⟩) ⟨pre.blind, va_recv (q := (RX5, TX5, 14)) hK hP (ci := 4) (q0 := 1) rfl rfl, fun U hU hW => ⟨rfl, pre.of (wc := [(h, .inr (4, [.ref fo, .int 0, .int 0, .ref mn, .ref df, .int 0, .ref bl, .int 0, .int 0, .int 1, .int 0, .ref tr, .ref wk, .ref sd])), (wk, .inr (3, [.ref wc, .int 1, .int 0])), (wc, .inl (cI, 512, .inl (upd f ((0 : Int32).toNatClampNeg) 3))), (fo, .inl (cF, 1000, .inr (.inr (.inr (.inr (fun _ => none))))))]) (tysc := [(cI, .int), (cF, .object RX2)]) (tk := [0, 1]) hP hD hK hS hA hE hZ [1, 2, 3, 0] (by decide) rfl rfl rfl U hU hW⟩⟩ rfl rfl hl.1 rfl (lv_room (Nat.le_of_ble_eq_true rfl)) dX5_join_85 ⟨by decide, by decide⟩) hP hD hK hS hA [1, 2, 3, 0] [] rfl rfl (by decide) (by decide) (fun v u H locs hw hP hD hK9 hS => ?_)
        have hw : v = some (.int 0) := hw
        subst hw
        have hP : va_P D vwCl [(h, .inr (4, [.ref fo, .int 1, .int 0, .ref mn, .ref df, .int 0, .ref bl, .int 0, .int 0, .int 1, .int 0, .ref tr, .ref wk, .ref sd]))] H := hP
        have hD : va_D _ [(h, .inr (4, [.ref fo, .int 1, .int 0, .ref mn, .ref df, .int 0, .ref bl, .int 0, .int 0, .int 1, .int 0, .ref tr, .ref wk, .ref sd]))] := hD
        refine W.eq (g2 := F0 m 88 ls [.int 0]) rfl ?_
        exact vx_ret (ck_iret () hx hb hr rfl hlocks ⟨rfl, ⟨rfl, rfl, rfl⟩⟩ (hP.sub [] rfl) (hK.sub [] rfl) (hD.sub [] (by decide) rfl) hS (by decide) (by decide) dX5_join_88)
      · refine ck_run (wr := [(wk, .inr (3, [.ref wc, .int z1, .int z2])), (wc, .inl (cI, 512, .inl f)), (fo, .inl (cF, 1000, .inr (.inr (.inr (.inr (fun _ => none))))))]) (va_runV (C := RX5) (As := [.int z, .int 0]) (rest := []) ⟨hx, hb, hml, hown, hts⟩ (c_isFN0n l D H.size h fo mn df bl tr wk sd z hz) (cw_V (n := 2) hts tw_2_122 tw_2_124 tw_s10 tw_1_1 tw_2_125 (by decide +kernel) ⟨by decide, by decide⟩) ⟨pre.blind, va_recv (q := (RX5, TX5, 14)) hK hP (ci := 4) (q0 := 3) rfl rfl, fun U hU hW => ⟨rfl, pre.of (wc := [(h, .inr (4, [.ref fo, .int 0, .int 0, .ref mn, .ref df, .int 0, .ref bl, .int 0, .int 0, .int 1, .int 0, .ref tr, .ref wk, .ref sd]))]) (tysc := []) (tk := []) hP hD hK hS hA hE hZ [3] (by decide) rfl rfl rfl U hU hW⟩⟩ rfl rfl hl.1 rfl (lv_room (Nat.le_of_ble_eq_true rfl)) dX5_join_53 ⟨by decide, by decide⟩) hP hD hK hS hA [3] [0, 1, 2] rfl rfl (by decide) (by decide) (fun v u H locs hw hP hD hK9 hS => ?_)
        have hw : v = some (.int 0) := hw
        subst hw
        have hP : va_P D vwCl [(wk, .inr (3, [.ref wc, .int z1, .int z2])), (wc, .inl (cI, 512, .inl f)), (fo, .inl (cF, 1000, .inr (.inr (.inr (.inr (fun _ => none)))))), (h, .inr (4, [.ref fo, .int 0, .int 0, .ref mn, .ref df, .int 0, .ref bl, .int 0, .int 0, .int 1, .int 0, .ref tr, .ref wk, .ref sd]))] H := hP
        have hD : va_D _ [(wk, .inr (3, [.ref wc, .int z1, .int z2])), (wc, .inl (cI, 512, .inl f)), (fo, .inl (cF, 1000, .inr (.inr (.inr (.inr (fun _ => none)))))), (h, .inr (4, [.ref fo, .int 0, .int 0, .ref mn, .ref df, .int 0, .ref bl, .int 0, .int 0, .int 1, .int 0, .ref tr, .ref wk, .ref sd]))] := hD
        refine W.eq (g2 := F0 m 56 ls [.int 0]) rfl ?_
        refine lv_if_ne (tgt := 69) hx hb dX5_join_56 (by decide) (fun c9 => absurd (by decide) c9) (fun _ => ?_)
        exact th_IAE hx hb hl0 hown hlocks htb hE hZ hS (hl.1.trans hml.symm) tn_2_126 sx_118 dX5_join_59 dX5_join_62 dX5_join_63 dX5_join_65 dX5_join_68 (by decide) (Nat.le_of_ble_eq_true rfl) (Nat.le_of_ble_eq_true rfl) (Nat.le_of_ble_eq_true rfl) ⟨rfl, by first | exact fun g => hk g.1 | exact fun g => hy g.2.1 | exact fun g => hz g.2.2⟩ (by decide) (by decide)
    · refine ck_run (wr := [(wk, .inr (3, [.ref wc, .int z1, .int z2])), (wc, .inl (cI, 512, .inl f)), (fo, .inl (cF, 1000, .inr (.inr (.inr (.inr (fun _ => none))))))]) (va_runV (C := RX5) (As := [.int y, .int 0]) (rest := []) ⟨hx, hb, hml, hown, hts⟩ (c_isFN0n l D s.heap.size h fo mn df bl tr wk sd y hy) (cw_V (n := 2) hts tw_2_122 tw_2_124 tw_s10 tw_1_1 tw_2_125 (by decide +kernel) ⟨by decide, by decide⟩) ⟨pre.blind, va_recv (q := (RX5, TX5, 14)) hK hP (ci := 4) (q0 := 0) rfl rfl, fun U hU hW => ⟨rfl, pre.of (wc := [(h, .inr (4, [.ref fo, .int 0, .int 0, .ref mn, .ref df, .int 0, .ref bl, .int 0, .int 0, .int 1, .int 0, .ref tr, .ref wk, .ref sd]))]) (tysc := []) (tk := []) hP hD hK hS hA hE hZ [0] (by decide) rfl rfl rfl U hU hW⟩⟩ rfl rfl hl.1 rfl (lv_room (Nat.le_of_ble_eq_true rfl)) dX5_join_31 ⟨by decide, by decide⟩) hP hD hK hS hA [0] [1, 2, 3] rfl rfl (by decide) (by decide) (fun v u H locs hw hP hD hK9 hS => ?_)
      have hw : v = some (.int 0) := hw
      subst hw
      have hP : va_P D vwCl [(wk, .inr (3, [.ref wc, .int z1, .int z2])), (wc, .inl (cI, 512, .inl f)), (fo, .inl (cF, 1000, .inr (.inr (.inr (.inr (fun _ => none)))))), (h, .inr (4, [.ref fo, .int 0, .int 0, .ref mn, .ref df, .int 0, .ref bl, .int 0, .int 0, .int 1, .int 0, .ref tr, .ref wk, .ref sd]))] H := hP
      have hD : va_D _ [(wk, .inr (3, [.ref wc, .int z1, .int z2])), (wc, .inl (cI, 512, .inl f)), (fo, .inl (cF, 1000, .inr (.inr (.inr (.inr (fun _ => none)))))), (h, .inr (4, [.ref fo, .int 0, .int 0, .ref mn, .ref df, .int 0, .ref bl, .int 0, .int 0, .int 1, .int 0, .ref tr, .ref wk, .ref sd]))] := hD
      refine W.eq (g2 := F0 m 34 ls [.int 0]) rfl ?_
      refine lv_if_eq (tgt := 59) hx hb dX5_join_34 (by decide) (fun _ => ?_) (fun c9 => absurd (by decide) c9)
      exact th_IAE hx hb hl0 hown hlocks htb hE hZ hS (hl.1.trans hml.symm) tn_2_126 sx_118 dX5_join_59 dX5_join_62 dX5_join_63 dX5_join_65 dX5_join_68 (by decide) (Nat.le_of_ble_eq_true rfl) (Nat.le_of_ble_eq_true rfl) (Nat.le_of_ble_eq_true rfl) ⟨rfl, by first | exact fun g => hk g.1 | exact fun g => hy g.2.1 | exact fun g => hz g.2.2⟩ (by decide) (by decide)
  · refine lv_iload_n hx hb dX5_join_0 rfl (lv_at hl 1 rfl) ?_
    refine lv_if_lt (tgt := 9) hx hb dX5_join_1 (by decide) (fun c_1 => ?_) (fun c_1 => ?_)
    · exact th_IAE hx hb hl0 hown hlocks htb hE hZ hS (hl.1.trans hml.symm) tn_2_121 sx_113 dX5_join_9 dX5_join_12 dX5_join_13 dX5_join_15 dX5_join_18 (by decide) (Nat.le_of_ble_eq_true rfl) (Nat.le_of_ble_eq_true rfl) (Nat.le_of_ble_eq_true rfl) ⟨rfl, by first | exact fun g => c_1 (by rw [g.1]; decide) | exact fun g => absurd c_1 (by rw [g.1]; decide) | exact fun g => c_6 (by rw [g.1]; decide) | exact fun g => hk g.1⟩ (by decide) (by decide)
    · refine lv_iload_n hx hb dX5_join_4 rfl (lv_at hl 1 rfl) ?_
      refine lv_iconst (v := 5) hx hb dX5_join_5 (by decide) ?_
      refine lv_icmp_le (tgt := 19) hx hb dX5_join_6 (by decide) (fun c_6 => ?_) (fun c_6 => ?_)
      · refine lv_aload_n hx hb dX5_join_19 rfl (lv_at hl 0 rfl) ?_
        refine lv_iload_n hx hb dX5_join_20 rfl (lv_at hl 2 rfl) ?_
        refine lv_iload_n hx hb dX5_join_21 rfl (lv_at hl 1 rfl) ?_
        refine lv_iconst (v := 5) hx hb dX5_join_22 (by decide) ?_
        refine lv_icmp_eq (tgt := 30) hx hb dX5_join_23 (by decide) (fun c9 => absurd c9 hk) (fun _ => ?_)
        refine lv_iconst (v := 1) hx hb dX5_join_26 (by decide) ?_
        refine lv_goto (tgt := 31) hx hb dX5_join_27 (by decide) ?_
        refine ck_run (wr := [(wk, .inr (3, [.ref wc, .int z1, .int z2])), (wc, .inl (cI, 512, .inl f)), (fo, .inl (cF, 1000, .inr (.inr (.inr (.inr (fun _ => none))))))]) (va_runV (C := RX5) (As := [.int y, .int 1]) (rest := []) ⟨hx, hb, hml, hown, hts⟩ (c_isFN1 l D s.heap.size h fo mn df bl tr wk sd y) (cw_V (n := 2) hts tw_2_122 tw_2_124 tw_s10 tw_1_1 tw_2_125 (by decide +kernel) ⟨by decide, by decide⟩) ⟨pre.blind, va_recv (q := (RX5, TX5, 14)) hK hP (ci := 4) (q0 := 0) rfl rfl, fun U hU hW => ⟨rfl, pre.of (wc := [(h, .inr (4, [.ref fo, .int 0, .int 0, .ref mn, .ref df, .int 0, .ref bl, .int 0, .int 0, .int 1, .int 0, .ref tr, .ref wk, .ref sd]))]) (tysc := []) (tk := []) hP hD hK hS hA hE hZ [0] (by decide) rfl rfl rfl U hU hW⟩⟩ rfl rfl hl.1 rfl (lv_room (Nat.le_of_ble_eq_true rfl)) dX5_join_31 ⟨by decide, by decide⟩) hP hD hK hS hA [0] [1, 2, 3] rfl rfl (by decide) (by decide) (fun v u H locs hw hP hD hK9 hS => ?_)
        have hw : v = some (.int 0) := hw
        subst hw
        have hP : va_P D vwCl [(wk, .inr (3, [.ref wc, .int z1, .int z2])), (wc, .inl (cI, 512, .inl f)), (fo, .inl (cF, 1000, .inr (.inr (.inr (.inr (fun _ => none)))))), (h, .inr (4, [.ref fo, .int 0, .int 0, .ref mn, .ref df, .int 0, .ref bl, .int 0, .int 0, .int 1, .int 0, .ref tr, .ref wk, .ref sd]))] H := hP
        have hD : va_D _ [(wk, .inr (3, [.ref wc, .int z1, .int z2])), (wc, .inl (cI, 512, .inl f)), (fo, .inl (cF, 1000, .inr (.inr (.inr (.inr (fun _ => none)))))), (h, .inr (4, [.ref fo, .int 0, .int 0, .ref mn, .ref df, .int 0, .ref bl, .int 0, .int 0, .int 1, .int 0, .ref tr, .ref wk, .ref sd]))] := hD
        refine W.eq (g2 := F0 m 34 ls [.int 0]) rfl ?_
        refine lv_if_eq (tgt := 59) hx hb dX5_join_34 (by decide) (fun _ => ?_) (fun c9 => absurd (by decide) c9)
        exact th_IAE hx hb hl0 hown hlocks htb hE hZ hS (hl.1.trans hml.symm) tn_2_126 sx_118 dX5_join_59 dX5_join_62 dX5_join_63 dX5_join_65 dX5_join_68 (by decide) (Nat.le_of_ble_eq_true rfl) (Nat.le_of_ble_eq_true rfl) (Nat.le_of_ble_eq_true rfl) ⟨rfl, by first | exact fun g => hk g.1 | exact fun g => hy g.2.1 | exact fun g => hz g.2.2⟩ (by decide) (by decide)
      · exact th_IAE hx hb hl0 hown hlocks htb hE hZ hS (hl.1.trans hml.symm) tn_2_121 sx_113 dX5_join_9 dX5_join_12 dX5_join_13 dX5_join_15 dX5_join_18 (by decide) (Nat.le_of_ble_eq_true rfl) (Nat.le_of_ble_eq_true rfl) (Nat.le_of_ble_eq_true rfl) ⟨rfl, by first | exact fun g => c_1 (by rw [g.1]; decide) | exact fun g => absurd c_1 (by rw [g.1]; decide) | exact fun g => c_6 (by rw [g.1]; decide) | exact fun g => hk g.1⟩ (by decide) (by decide)
set_option maxHeartbeats 4000000 in
set_option maxRecDepth 100000 in
theorem c_begin (l : Launch) (D : va_G) (sz : Nat) (b t : Nat) (k : Int32) : cM l yX0_begin (.code yX0_begin cX0_begin 3 none) 10 270 0 0 [.ref b, .int k, .ref t] D [] [(b, .inr (0, [.int 0, .null, .int 0, .int 0, .null]))] sz (S := Unit) (fun v _ => v = none) (fun _ => []) (fun _ => []) := by
  refine cM_of (by decide) (Nat.le_of_ble_eq_true rfl) ?_
  intro p e s m below meth c ls hF hsz hP hK hD hE hZ hA hl
  obtain ⟨hx, hb, hr, hml, hown, hlocks, hnm, htb, hts⟩ := hF
  have hown : s.vm.findClass RX0 = some m.cls := hown
  have hl : lv_has ls 3 [(0, .ref b), (1, .int k), (2, .ref t)] := hl
  have hS : va_S (va_A [(b, .inr (0, [.int 0, .null, .int 0, .int 0, .null]))] sz) s.heap s.heap [] := va_S.rf
  refine lv_aload_n hx hb dX0_begin_0 rfl (lv_at hl 0 rfl) ?_
  refine lv_iload_n hx hb dX0_begin_1 rfl (lv_at hl 1 rfl) ?_
  refine va_put (ci := 0) (v := .int k) (ty := .int) (C := RX0) (T := TX0) (N := 5) hx hb hts inG_X0 tyX0 tyX0_ok nmX0 hown hK hP hD hS 0 rfl rfl 0 (by decide) (hts _ tw_1_33) (fun _ h9 => h9) rfl (by decide +kernel) rfl rfl (Nat.le_of_ble_eq_true rfl) dX0_begin_2 (fun H locs hP hD hS => ?_)
  have hP : va_P D vwCl [(b, .inr (0, [.int k, .null, .int 0, .int 0, .null]))] H := hP
  have hD : va_D _ [(b, .inr (0, [.int k, .null, .int 0, .int 0, .null]))] := hD
  refine lv_aload_n hx hb dX0_begin_5 rfl (lv_at hl 0 rfl) ?_
  refine lv_aload_n hx hb dX0_begin_6 rfl (lv_at hl 2 rfl) ?_
  refine va_put (ci := 0) (v := .ref t) (ty := .object "ThesisDesk$Form") (C := RX0) (T := TX0) (N := 5) hx hb hts inG_X0 tyX0 tyX0_ok nmX0 hown hK hP hD hS 0 rfl rfl 1 (by decide) (hts _ tw_1_35) (fun _ h9 => h9) rfl (by decide +kernel) rfl rfl (Nat.le_of_ble_eq_true rfl) dX0_begin_7 (fun H locs hP hD hS => ?_)
  have hP : va_P D vwCl [(b, .inr (0, [.int k, .ref t, .int 0, .int 0, .null]))] H := hP
  have hD : va_D _ [(b, .inr (0, [.int k, .ref t, .int 0, .int 0, .null]))] := hD
  refine lv_aload_n hx hb dX0_begin_10 rfl (lv_at hl 0 rfl) ?_
  refine lv_iconst (v := 0) hx hb dX0_begin_11 (by decide) ?_
  refine va_put (ci := 0) (v := .int 0) (ty := .boolean) (C := RX0) (T := TX0) (N := 5) hx hb hts inG_X0 tyX0 tyX0_ok nmX0 hown hK hP hD hS 0 rfl rfl 2 (by decide) (hts _ tw_1_37) (fun _ h9 => h9) rfl (by decide +kernel) rfl rfl (Nat.le_of_ble_eq_true rfl) dX0_begin_12 (fun H locs hP hD hS => ?_)
  have hP : va_P D vwCl [(b, .inr (0, [.int k, .ref t, .int 0, .int 0, .null]))] H := hP
  have hD : va_D _ [(b, .inr (0, [.int k, .ref t, .int 0, .int 0, .null]))] := hD
  refine lv_aload_n hx hb dX0_begin_15 rfl (lv_at hl 0 rfl) ?_
  refine lv_iconst (v := 0) hx hb dX0_begin_16 (by decide) ?_
  refine va_put (ci := 0) (v := .int 0) (ty := .boolean) (C := RX0) (T := TX0) (N := 5) hx hb hts inG_X0 tyX0 tyX0_ok nmX0 hown hK hP hD hS 0 rfl rfl 3 (by decide) (hts _ tw_1_39) (fun _ h9 => h9) rfl (by decide +kernel) rfl rfl (Nat.le_of_ble_eq_true rfl) dX0_begin_17 (fun H locs hP hD hS => ?_)
  have hP : va_P D vwCl [(b, .inr (0, [.int k, .ref t, .int 0, .int 0, .null]))] H := hP
  have hD : va_D _ [(b, .inr (0, [.int k, .ref t, .int 0, .int 0, .null]))] := hD
  refine lv_aload_n hx hb dX0_begin_20 rfl (lv_at hl 0 rfl) ?_
  refine lv_null hx hb dX0_begin_21 ?_
  refine va_put (ci := 0) (v := .null) (ty := .object "ThesisDesk$Note") (C := RX0) (T := TX0) (N := 5) hx hb hts inG_X0 tyX0 tyX0_ok nmX0 hown hK hP hD hS 0 rfl rfl 4 (by decide) (hts _ tw_1_41) (fun _ h9 => h9) rfl (by decide +kernel) rfl rfl (Nat.le_of_ble_eq_true rfl) dX0_begin_22 (fun H locs hP hD hS => ?_)
  have hP : va_P D vwCl [(b, .inr (0, [.int k, .ref t, .int 0, .int 0, .null]))] H := hP
  have hD : va_D _ [(b, .inr (0, [.int k, .ref t, .int 0, .int 0, .null]))] := hD
  exact ck_vret () hx hb hr hlocks rfl (hP.sub [] rfl) (hK.sub [] rfl) (hD.sub [] (by decide) rfl) hS (by decide) (by decide) dX0_begin_25
set_option maxHeartbeats 4000000 in
set_option maxRecDepth 100000 in
theorem c_refuseW (l : Launch) (D : va_G) (sz : Nat) (h fo mn df bl tr wk sd : Nat) : cM l yX5_refuseWhileWaiting (.code yX5_refuseWhileWaiting cX5_refuseWhileWaiting 2 none) 12 340 0 0 [.ref h] D [] [(h, .inr (4, [.ref fo, .int 0, .int 0, .ref mn, .ref df, .int 0, .ref bl, .int 0, .int 0, .int 1, .int 0, .ref tr, .ref wk, .ref sd]))] sz (S := Unit) (fun v _ => v = none) (fun _ => [(h, .inr (4, [.ref fo, .int 0, .int 0, .ref mn, .ref df, .int 0, .ref bl, .int 0, .int 0, .int 1, .int 0, .ref tr, .ref wk, .ref sd]))]) (fun _ => []) := by
  refine cM_of (by decide) (Nat.le_of_ble_eq_true rfl) ?_
  intro p e s m below meth c ls hF hsz hP hK hD hE hZ hA hl
  obtain ⟨hx, hb, hr, hml, hown, hlocks, hnm, htb, hts⟩ := hF
  have hown : s.vm.findClass RX5 = some m.cls := hown
  have hl : lv_has ls 2 [(0, .ref h)] := hl
  have hS : va_S (va_A [(h, .inr (4, [.ref fo, .int 0, .int 0, .ref mn, .ref df, .int 0, .ref bl, .int 0, .int 0, .int 1, .int 0, .ref tr, .ref wk, .ref sd]))] sz) s.heap s.heap [] := va_S.rf
  refine lv_aload_n hx hb dX5_refuseWhileWaiting_0 rfl (lv_at hl 0 rfl) ?_
  refine ck_run (wr := []) (va_runV (C := RX5) (As := []) (rest := []) ⟨hx, hb, hml, hown, hts⟩ (c_openBlock l D s.heap.size h fo mn df bl tr wk sd) (cw_V (n := 0) hts tw_2_237 tw_2_239 tw_s24 tw_1_1 tw_3_0 (by decide +kernel) ⟨by decide, by decide⟩) ⟨pre.blind, va_recv (q := (RX5, TX5, 14)) hK hP (ci := 4) (q0 := 0) rfl rfl, fun U hU hW => ⟨rfl, pre.of (wc := [(h, .inr (4, [.ref fo, .int 0, .int 0, .ref mn, .ref df, .int 0, .ref bl, .int 0, .int 0, .int 1, .int 0, .ref tr, .ref wk, .ref sd]))]) (tysc := []) (tk := []) hP hD hK hS hA hE hZ [0] (by decide) rfl rfl rfl U hU hW⟩⟩ rfl rfl hl.1 rfl (lv_room (Nat.le_of_ble_eq_true rfl)) dX5_refuseWhileWaiting_1 ⟨by decide, by decide⟩) hP hD hK hS hA [0] [] rfl rfl (by decide) (by decide) (fun v u H locs hw hP hD hK9 hS => ?_)
  have hw : v = some (.null) := hw
  subst hw
  have hP : va_P D vwCl [(h, .inr (4, [.ref fo, .int 0, .int 0, .ref mn, .ref df, .int 0, .ref bl, .int 0, .int 0, .int 1, .int 0, .ref tr, .ref wk, .ref sd]))] H := hP
  have hD : va_D _ [(h, .inr (4, [.ref fo, .int 0, .int 0, .ref mn, .ref df, .int 0, .ref bl, .int 0, .int 0, .int 1, .int 0, .ref tr, .ref wk, .ref sd]))] := hD
  refine W.eq (g2 := F0 m 4 ls [.null]) rfl ?_
  refine lv_astore_nN (lv' := [(1, .null), (0, .ref h)]) hx hb dX5_refuseWhileWaiting_4 rfl hl (by decide) rfl (fun ls hl => ?_)
  refine lv_aload_nN hx hb dX5_refuseWhileWaiting_5 rfl (lv_at hl 0 rfl) ?_
  refine lv_ifnullN (tgt := 27) hx hb dX5_refuseWhileWaiting_6 (by decide) ?_
  exact ck_vret () hx hb hr hlocks rfl (hP.sub [0] rfl) (hK.sub [] rfl) (hD.sub [0] (by decide) rfl) hS (by decide) (by decide) dX5_refuseWhileWaiting_27
set_option maxHeartbeats 4000000 in
set_option maxRecDepth 100000 in
theorem c_beginBlock (l : Launch) (D : va_G) (sz : Nat) (h fo mn df bl tr wk sd : Nat) (b0 : Nat) (cB : ClassId) (gb : Nat → Option Nat) (hg : gb ((0 : Int32).toNatClampNeg) = some b0) (k : Int32) : cM l yX5_beginBlock (.code yX5_beginBlock cX5_beginBlock 3 (some .int)) 12 340 0 0 [.ref h, .int k, .ref tr] D [(cB, .object RX0)] [(h, .inr (4, [.ref fo, .int 0, .int 0, .ref mn, .ref df, .int 0, .ref bl, .int 0, .int 0, .int 1, .int 0, .ref tr, .ref wk, .ref sd])), (bl, .inl (cB, 40, .inr (.inr (.inr (.inr gb))))), (b0, .inr (0, [.int 0, .null, .int 0, .int 0, .null]))] sz (S := Unit) (fun v _ => v = some (.int 1)) (fun _ => []) (fun _ => []) := by
  refine cM_of (by decide) (Nat.le_of_ble_eq_true rfl) ?_
  intro p e s m below meth c ls hF hsz hP hK hD hE hZ hA hl
  obtain ⟨hx, hb, hr, hml, hown, hlocks, hnm, htb, hts⟩ := hF
  have hown : s.vm.findClass RX5 = some m.cls := hown
  have hl : lv_has ls 3 [(0, .ref h), (1, .int k), (2, .ref tr)] := hl
  have hS : va_S (va_A [(h, .inr (4, [.ref fo, .int 0, .int 0, .ref mn, .ref df, .int 0, .ref bl, .int 0, .int 0, .int 1, .int 0, .ref tr, .ref wk, .ref sd])), (bl, .inl (cB, 40, .inr (.inr (.inr (.inr gb))))), (b0, .inr (0, [.int 0, .null, .int 0, .int 0, .null]))] sz) s.heap s.heap [] := va_S.rf
  refine lv_aload_n hx hb dX5_beginBlock_0 rfl (lv_at hl 0 rfl) ?_
  refine va_get (ci := 4) (v := .int 0) (C := RX5) (T := TX5) (N := 14) hx hb hts inG_X5 hown hK hP 0 rfl rfl 7 (by decide) (hts _ tw_1_124) (fun _ h9 => h9) rfl dX5_beginBlock_1 ?_
  refine lv_bipush (v := 40) hx hb dX5_beginBlock_4 (by decide) ?_
  refine lv_icmp_lt (tgt := 20) hx hb dX5_beginBlock_6 (by decide) (fun _ => ?_) (fun c9 => absurd (by decide) c9)
  refine lv_aload_n hx hb dX5_beginBlock_20 rfl (lv_at hl 0 rfl) ?_
  refine va_get (ci := 4) (v := .ref bl) (C := RX5) (T := TX5) (N := 14) hx hb hts inG_X5 hown hK hP 0 rfl rfl 6 (by decide) (hts _ tw_1_123) (fun _ h9 => h9) rfl dX5_beginBlock_21 ?_
  refine lv_aload_n hx hb dX5_beginBlock_24 rfl (lv_at hl 0 rfl) ?_
  refine va_get (ci := 4) (v := .int 0) (C := RX5) (T := TX5) (N := 14) hx hb hts inG_X5 hown hK hP 0 rfl rfl 7 (by decide) (hts _ tw_1_124) (fun _ h9 => h9) rfl dX5_beginBlock_25 ?_
  refine va_aldq hx hb hK hP 1 0 rfl rfl (vi (by decide)) dX5_beginBlock_28 ?_
  refine W.eq (g2 := F0 m 29 ls [.ref b0]) (by rw [hg]; rfl) ?_
  refine lv_iload_n hx hb dX5_beginBlock_29 rfl (lv_at hl 1 rfl) ?_
  refine lv_aload_n hx hb dX5_beginBlock_30 rfl (lv_at hl 2 rfl) ?_
  refine ck_run (wr := [(h, .inr (4, [.ref fo, .int 0, .int 0, .ref mn, .ref df, .int 0, .ref bl, .int 0, .int 0, .int 1, .int 0, .ref tr, .ref wk, .ref sd])), (bl, .inl (cB, 40, .inr (.inr (.inr (.inr gb)))))]) (va_runV (C := RX0) (As := [.int k, .ref tr]) (rest := []) ⟨hx, hb, hml, hown, hts⟩ (c_begin l D s.heap.size b0 tr k) (cw_V (n := 2) hts tw_3_7 tw_3_8 tw_3_9 tw_1_2 tw_3_10 (by decide +kernel) ⟨by decide, by decide⟩) ⟨pre.blind, va_recv (q := (RX0, TX0, 5)) hK hP (ci := 0) (q0 := 2) rfl rfl, fun U hU hW => ⟨rfl, pre.of (wc := [(b0, .inr (0, [.int 0, .null, .int 0, .int 0, .null]))]) (tysc := []) (tk := []) hP hD hK hS hA hE hZ [2] (by decide) rfl rfl rfl U hU hW⟩⟩ rfl rfl hl.1 rfl (lv_room (Nat.le_of_ble_eq_true rfl)) dX5_beginBlock_31 ⟨by decide, by decide⟩) hP hD hK hS hA [2] [0, 1] rfl rfl (by decide) (by decide) (fun v u H locs hw hP hD hK9 hS => ?_)
  have hw : v = none := hw
  subst hw
  have hP : va_P D vwCl [(h, .inr (4, [.ref fo, .int 0, .int 0, .ref mn, .ref df, .int 0, .ref bl, .int 0, .int 0, .int 1, .int 0, .ref tr, .ref wk, .ref sd])), (bl, .inl (cB, 40, .inr (.inr (.inr (.inr gb)))))] H := hP
  have hD : va_D _ [(h, .inr (4, [.ref fo, .int 0, .int 0, .ref mn, .ref df, .int 0, .ref bl, .int 0, .int 0, .int 1, .int 0, .ref tr, .ref wk, .ref sd])), (bl, .inl (cB, 40, .inr (.inr (.inr (.inr gb)))))] := hD
  refine W.eq (g2 := F0 m 34 ls []) rfl ?_
  refine lv_aload_n hx hb dX5_beginBlock_34 rfl (lv_at hl 0 rfl) ?_
  refine lv_dup hx hb dX5_beginBlock_35 rfl ?_
  refine va_get (ci := 4) (v := .int 0) (C := RX5) (T := TX5) (N := 14) hx hb hts inG_X5 hown hK hP 0 rfl rfl 7 (by decide) (hts _ tw_1_124) (fun _ h9 => h9) rfl dX5_beginBlock_36 ?_
  refine lv_iconst (v := 1) hx hb dX5_beginBlock_39 (by decide) ?_
  refine lv_iadd hx hb dX5_beginBlock_40 ?_
  refine ck_top (y := 1) (by decide) ?_
  refine va_put (ci := 4) (v := .int 1) (ty := .int) (C := RX5) (T := TX5) (N := 14) hx hb hts inG_X5 tyX5 tyX5_ok nmX5 hown hK hP hD hS 0 rfl rfl 7 (by decide) (hts _ tw_1_124) (fun _ h9 => h9) rfl (by decide +kernel) rfl rfl (Nat.le_of_ble_eq_true rfl) dX5_beginBlock_41 (fun H locs hP hD hS => ?_)
  have hP : va_P D vwCl [(h, .inr (4, [.ref fo, .int 0, .int 0, .ref mn, .ref df, .int 0, .ref bl, .int 1, .int 0, .int 1, .int 0, .ref tr, .ref wk, .ref sd])), (bl, .inl (cB, 40, .inr (.inr (.inr (.inr gb)))))] H := hP
  have hD : va_D _ [(h, .inr (4, [.ref fo, .int 0, .int 0, .ref mn, .ref df, .int 0, .ref bl, .int 1, .int 0, .int 1, .int 0, .ref tr, .ref wk, .ref sd])), (bl, .inl (cB, 40, .inr (.inr (.inr (.inr gb)))))] := hD
  refine lv_aload_n hx hb dX5_beginBlock_44 rfl (lv_at hl 0 rfl) ?_
  refine va_get (ci := 4) (v := .int 1) (C := RX5) (T := TX5) (N := 14) hx hb hts inG_X5 hown hK hP 0 rfl rfl 7 (by decide) (hts _ tw_1_124) (fun _ h9 => h9) rfl dX5_beginBlock_45 ?_
  exact ck_iret () hx hb hr rfl hlocks rfl (hP.sub [] rfl) (hK.sub [] rfl) (hD.sub [] (by decide) rfl) hS (by decide) (by decide) dX5_beginBlock_48
set_option maxHeartbeats 4000000 in
set_option maxRecDepth 100000 in
theorem c_now (l : Launch) (D : va_G) (sz : Nat) (h fo mn df bl tr wk sd : Nat) (b0 : Nat) (cB : ClassId) (gb : Nat → Option Nat) (hg : gb ((0 : Int32).toNatClampNeg) = some b0) : cM l yX5_now (.code yX5_now cX5_now 1 (some .int)) 24 760 0 0 [.ref h] D [(cB, .object RX0)] [(h, .inr (4, [.ref fo, .int 0, .int 0, .ref mn, .ref df, .int 0, .ref bl, .int 0, .int 0, .int 1, .int 0, .ref tr, .ref wk, .ref sd])), (bl, .inl (cB, 40, .inr (.inr (.inr (.inr gb))))), (b0, .inr (0, [.int 0, .null, .int 0, .int 0, .null]))] sz (S := Unit) (fun v _ => v = some (.int 1)) (fun _ => []) (fun _ => []) := by
  refine cM_of (by decide) (Nat.le_of_ble_eq_true rfl) ?_
  intro p e s m below meth c ls hF hsz hP hK hD hE hZ hA hl
  obtain ⟨hx, hb, hr, hml, hown, hlocks, hnm, htb, hts⟩ := hF
  have hown : s.vm.findClass RX5 = some m.cls := hown
  have hl : lv_has ls 1 [(0, .ref h)] := hl
  have hS : va_S (va_A [(h, .inr (4, [.ref fo, .int 0, .int 0, .ref mn, .ref df, .int 0, .ref bl, .int 0, .int 0, .int 1, .int 0, .ref tr, .ref wk, .ref sd])), (bl, .inl (cB, 40, .inr (.inr (.inr (.inr gb))))), (b0, .inr (0, [.int 0, .null, .int 0, .int 0, .null]))] sz) s.heap s.heap [] := va_S.rf
  refine lv_aload_n hx hb dX5_now_0 rfl (lv_at hl 0 rfl) ?_
  refine ck_run (wr := [(bl, .inl (cB, 40, .inr (.inr (.inr (.inr gb))))), (b0, .inr (0, [.int 0, .null, .int 0, .int 0, .null]))]) (va_runV (C := RX5) (As := []) (rest := []) ⟨hx, hb, hml, hown, hts⟩ (c_refuseW l D s.heap.size h fo mn df bl tr wk sd) (cw_V (n := 0) hts tw_2_233 tw_2_235 tw_s23 tw_1_1 tw_2_236 (by decide +kernel) ⟨by decide, by decide⟩) ⟨pre.blind, va_recv (q := (RX5, TX5, 14)) hK hP (ci := 4) (q0 := 0) rfl rfl, fun U hU hW => ⟨rfl, pre.of (wc := [(h, .inr (4, [.ref fo, .int 0, .int 0, .ref mn, .ref df, .int 0, .ref bl, .int 0, .int 0, .int 1, .int 0, .ref tr, .ref wk, .ref sd]))]) (tysc := []) (tk := []) hP hD hK hS hA hE hZ [0] (by decide) rfl rfl rfl U hU hW⟩⟩ rfl rfl hl.1 rfl (lv_room (Nat.le_of_ble_eq_true rfl)) dX5_now_1 ⟨by decide, by decide⟩) hP hD hK hS hA [0] [1, 2] rfl rfl (by decide) (by decide) (fun v u H locs hw hP hD hK9 hS => ?_)
  have hw : v = none := hw
  subst hw
  have hP : va_P D vwCl [(bl, .inl (cB, 40, .inr (.inr (.inr (.inr gb))))), (b0, .inr (0, [.int 0, .null, .int 0, .int 0, .null])), (h, .inr (4, [.ref fo, .int 0, .int 0, .ref mn, .ref df, .int 0, .ref bl, .int 0, .int 0, .int 1, .int 0, .ref tr, .ref wk, .ref sd]))] H := hP
  have hD : va_D _ [(bl, .inl (cB, 40, .inr (.inr (.inr (.inr gb))))), (b0, .inr (0, [.int 0, .null, .int 0, .int 0, .null])), (h, .inr (4, [.ref fo, .int 0, .int 0, .ref mn, .ref df, .int 0, .ref bl, .int 0, .int 0, .int 1, .int 0, .ref tr, .ref wk, .ref sd]))] := hD
  refine W.eq (g2 := F0 m 4 ls []) rfl ?_
  refine lv_aload_n hx hb dX5_now_4 rfl (lv_at hl 0 rfl) ?_
  refine lv_iconst (v := 1) hx hb dX5_now_5 (by decide) ?_
  refine lv_aload_n hx hb dX5_now_6 rfl (lv_at hl 0 rfl) ?_
  refine va_get (ci := 4) (v := .ref tr) (C := RX5) (T := TX5) (N := 14) hx hb hts inG_X5 hown hK hP 2 rfl rfl 11 (by decide) (hts _ tw_1_128) (fun _ h9 => h9) rfl dX5_now_7 ?_
  refine ck_run (wr := []) (va_runV (C := RX5) (As := [.int 1, .ref tr]) (rest := []) ⟨hx, hb, hml, hown, hts⟩ (c_beginBlock l D H.size h fo mn df bl tr wk sd b0 cB gb hg 1) (cw_V (n := 2) hts tw_3_2 tw_3_4 tw_s25 tw_1_1 tw_3_5 (by decide +kernel) ⟨by decide, by decide⟩) ⟨pre.blind, va_recv (q := (RX5, TX5, 14)) hK hP (ci := 4) (q0 := 2) rfl rfl, fun U hU hW => ⟨rfl, pre.of (wc := [(h, .inr (4, [.ref fo, .int 0, .int 0, .ref mn, .ref df, .int 0, .ref bl, .int 0, .int 0, .int 1, .int 0, .ref tr, .ref wk, .ref sd])), (bl, .inl (cB, 40, .inr (.inr (.inr (.inr gb))))), (b0, .inr (0, [.int 0, .null, .int 0, .int 0, .null]))]) (tysc := [(cB, .object RX0)]) (tk := [0]) hP hD hK hS hA hE hZ [2, 0, 1] (by decide) rfl rfl rfl U hU hW⟩⟩ rfl rfl hl.1 rfl (lv_room (Nat.le_of_ble_eq_true rfl)) dX5_now_10 ⟨by decide, by decide⟩) hP hD hK hS hA [2, 0, 1] [] rfl rfl (by decide) (by decide) (fun v u H locs hw hP hD hK9 hS => ?_)
  have hw : v = some (.int 1) := hw
  subst hw
  have hP : va_P D vwCl [] H := hP
  have hD : va_D _ [] := hD
  refine W.eq (g2 := F0 m 13 ls [.int 1]) rfl ?_
  exact ck_iret () hx hb hr rfl hlocks rfl (hP.sub [] rfl) (hK.sub [] rfl) (hD.sub [] (by decide) rfl) hS (by decide) (by decide) dX5_now_13
