set_option maxHeartbeats 4000000 in
set_option maxRecDepth 100000 in
theorem c_joinFormN (l : Launch) (D : va_G) (sz : Nat) (r rc : Nat) (cR : ClassId) (f : Nat → Int32) (n z : Int32) : cM l yX4_joinForm (.code yX4_joinForm cX4_joinForm 2 none) 20 620 0 0 [.ref r, .null] D [(cR, .int)] [(r, .inr (3, [.ref rc, .int n, .int z])), (rc, .inl (cR, 512, .inl f))] sz (S := Unit) (fun v _ => v = none) (fun _ => [(r, .inr (3, [.ref rc, .int n, .int z])), (rc, .inl (cR, 512, .inl f))]) (fun _ => [(cR, .int)]) := by
  refine cM_of (by decide) (Nat.le_of_ble_eq_true rfl) ?_
  intro p e s m below meth c ls hF hsz hP hK hD hE hZ hA hl
  obtain ⟨hx, hb, hr, hml, hown, hlocks, hnm, htb, hts⟩ := hF
  have hown : s.vm.findClass RX4 = some m.cls := hown
  have hl : lv_has ls 2 [(0, .ref r), (1, .null)] := hl
  have hS : va_S (va_A [(r, .inr (3, [.ref rc, .int n, .int z])), (rc, .inl (cR, 512, .inl f))] sz) s.heap s.heap [] := va_S.rf
  refine lv_aload_nN hx hb dX4_joinForm_0 rfl (lv_at hl 1 rfl) ?_
  refine lv_ifnullN (tgt := 17) hx hb dX4_joinForm_1 (by decide) ?_
  exact ck_vret () hx hb hr hlocks rfl (hP.sub [0, 1] rfl) (hK.sub [0] rfl) (hD.sub [0, 1] (by decide) rfl) hS (by decide) (by decide) dX4_joinForm_17
set_option maxHeartbeats 4000000 in
set_option maxRecDepth 100000 in
theorem c_tell_r (l : Launch) (D : va_G) (sz : Nat) (d fa ma da ba wk sd tr : Nat) (fc cc pr bc nc lf mi : Int32) (wkc : Nat) (cR : ClassId) (f : Nat → Int32) (n z : Int32) (po : va_W) (hn : r_ok n) (j2 i2 : Nat) (o2 q2 : Nat) (F2 : FR) (hgo2 : po[i2]? = some (o2, .inr (1, [.ref q2, .int (fm_whole F2.2 F2.1), .int (fm F2.2 F2.1).2]))) (hgc2 : po[j2]? = some (q2, .inl (cR, F2.1, .inl F2.2))) (hN2 : 1 ≤ F2.1 ∧ F2.1 ≤ 512) (nn ni : Nat) (be : Option Nat) (ki cn : Int32) (hno : po[ni]? = some (nn, .inr (2, [.int ki, .int cn, .ref o2, va_rf be]))) : cM l yX5_tellStep (.code yX5_tellStep cX5_tellStep 2 none) 22 690 0 0 [.ref d, .ref nn] D [(cR, .int)] ([(d, .inr (4, [.ref fa, .int fc, .int cc, .ref ma, .ref da, .int pr, .ref ba, .int bc, .int nc, .int lf, .int mi, .ref tr, .ref wk, .ref sd])), (wk, .inr (3, [.ref wkc, .int n, .int z])), (wkc, .inl (cR, 512, .inl f))] ++ po) sz (S := (Nat → Int32) × Int32 × Int32) (fun v u => v = none ∧ t_row ki cn (some F2) f n z = (u.1, u.2.1, u.2.2)) (fun u => ([(d, .inr (4, [.ref fa, .int fc, .int cc, .ref ma, .ref da, .int pr, .ref ba, .int bc, .int nc, .int lf, .int mi, .ref tr, .ref wk, .ref sd])), (wk, .inr (3, [.ref wkc, .int u.2.1, .int u.2.2])), (wkc, .inl (cR, 512, .inl u.1))] ++ po)) (fun u => [(cR, .int)]) := by
  refine cM_of (by decide) (Nat.le_of_ble_eq_true rfl) ?_
  intro p e s m below meth c ls hF hsz hP hK hD hE hZ hA hl
  obtain ⟨hx, hb, hr, hml, hown, hlocks, hnm, htb, hts⟩ := hF
  have hown : s.vm.findClass RX5 = some m.cls := hown
  have hl : lv_has ls 2 [(0, .ref d), (1, .ref nn)] := hl
  have hS : va_S (va_A ([(d, .inr (4, [.ref fa, .int fc, .int cc, .ref ma, .ref da, .int pr, .ref ba, .int bc, .int nc, .int lf, .int mi, .ref tr, .ref wk, .ref sd])), (wk, .inr (3, [.ref wkc, .int n, .int z])), (wkc, .inl (cR, 512, .inl f))] ++ po) sz) s.heap s.heap [] := va_S.rf
  refine lv_aload_n hx hb dX5_tellStep_0 rfl (lv_at hl 1 rfl) ?_
  refine va_getN (ci := 2) (v := .int ki) (C := RX3) (T := TX3) (N := 4) hx hb hts inG_X3 hown hK hP (ni + 3) hno rfl 0 (by decide) (hE.w tn_3_50 rfl) (fun _ h9 => h9) rfl dX5_tellStep_1 ?_
  refine lv_iconst (v := 2) hx hb dX5_tellStep_4 (by decide) ?_
  refine lv_icmp_ne (tgt := 22) hx hb dX5_tellStep_5 (by decide) (fun c_5 => ?_) (fun c_5 => ?_)
  · refine lv_aload_n hx hb dX5_tellStep_22 rfl (lv_at hl 0 rfl) ?_
    refine va_get (ci := 4) (v := .ref wk) (C := RX5) (T := TX5) (N := 14) hx hb hts inG_X5 hown hK hP 0 rfl rfl 12 (by decide) (hts _ tw_1_129) (fun _ h9 => h9) rfl dX5_tellStep_23 ?_
    refine lv_aload_n hx hb dX5_tellStep_26 rfl (lv_at hl 1 rfl) ?_
    refine va_getN (ci := 2) (v := .ref o2) (C := RX3) (T := TX3) (N := 4) hx hb hts inG_X3 hown hK hP (ni + 3) hno rfl 2 (by decide) (hE.w tn_3_54 rfl) (fun _ h9 => h9) rfl dX5_tellStep_27 ?_
    have hP : va_P D vwCl ([(d, .inr (4, [.ref fa, .int fc, .int cc, .ref ma, .ref da, .int pr, .ref ba, .int bc, .int nc, .int lf, .int mi, .ref tr, .ref wk, .ref sd])), (wk, .inr (3, [.ref wkc, .int n, .int z])), (wkc, .inl (cR, 512, .inl f))] ++ po) s.heap := hP
    have hD : va_D _ ([(d, .inr (4, [.ref fa, .int fc, .int cc, .ref ma, .ref da, .int pr, .ref ba, .int bc, .int nc, .int lf, .int mi, .ref tr, .ref wk, .ref sd])), (wk, .inr (3, [.ref wkc, .int n, .int z])), (wkc, .inl (cR, 512, .inl f))] ++ po) := hD
    refine ck_runP (wr := [(d, .inr (4, [.ref fa, .int fc, .int cc, .ref ma, .ref da, .int pr, .ref ba, .int bc, .int nc, .int lf, .int mi, .ref tr, .ref wk, .ref sd]))]) (rx := fun u => [(wk, .inr (3, [.ref wkc, .int u.2.1, .int u.2.2])), (wkc, .inl (cR, 512, .inl u.1))]) (pl1 := fun u => po) (va_runV (C := RX4) (As := [.ref o2]) (rest := []) ⟨hx, hb, hml, hown, hts⟩ (c_imply l D s.heap.size wk wkc cR f n z po j2 i2 o2 q2 F2.1 F2.2 (fm_whole F2.2 F2.1) ((fm F2.2 F2.1).2) hgo2 hgc2 hN2 hn) (cw_V (n := 1) hts tw_2_194 tw_2_195 tw_2_196 tw_1_3 tw_2_197 (by decide +kernel) ⟨by decide, by decide⟩) ⟨pre.blind, va_recv (q := (RX4, TX4, 3)) hK hP (ci := 3) (q0 := 1) rfl rfl, fun U hU hW => ⟨rfl, pre.ofP (cx := [(wk, .inr (3, [.ref wkc, .int n, .int z])), (wkc, .inl (cR, 512, .inl f))]) (pl := po) (tysc := [(cR, .int)]) (tk := [0]) hP hD hK hS hA hE hZ [1, 2] (by decide) rfl rfl U hU hW⟩⟩ rfl rfl hl.1 rfl (lv_room (Nat.le_of_ble_eq_true rfl)) dX5_tellStep_30 ⟨by decide, by decide⟩) hP hD hK hS hA (fun _ => rfl) [1, 2] [0] rfl rfl (by decide) (by decide) (fun v u H locs hw hP hD hK9 hS => ?_)
    obtain ⟨f1_1, n1_2, z1_3⟩ := u
    have hw : v = none ∧ r_imply F2.2 F2.1 f n z = (f1_1, n1_2, z1_3) := hw
    obtain ⟨rfl, hq_4⟩ := hw
    have hP : va_P D vwCl ([(d, .inr (4, [.ref fa, .int fc, .int cc, .ref ma, .ref da, .int pr, .ref ba, .int bc, .int nc, .int lf, .int mi, .ref tr, .ref wk, .ref sd])), (wk, .inr (3, [.ref wkc, .int n1_2, .int z1_3])), (wkc, .inl (cR, 512, .inl f1_1))] ++ po) H := hP
    have hD : va_D _ ([(d, .inr (4, [.ref fa, .int fc, .int cc, .ref ma, .ref da, .int pr, .ref ba, .int bc, .int nc, .int lf, .int mi, .ref tr, .ref wk, .ref sd])), (wk, .inr (3, [.ref wkc, .int n1_2, .int z1_3])), (wkc, .inl (cR, 512, .inl f1_1))] ++ po) := hD
    refine W.eq (g2 := F0 m 33 ls []) rfl ?_
    refine lv_aload_n hx hb dX5_tellStep_33 rfl (lv_at hl 1 rfl) ?_
    refine va_getN (ci := 2) (v := .int ki) (C := RX3) (T := TX3) (N := 4) hx hb hts inG_X3 hown hK hP (ni + 3) hno rfl 0 (by decide) (hE.w tn_3_50 rfl) (fun _ h9 => h9) rfl dX5_tellStep_34 ?_
    refine lv_if_eq (tgt := 48) hx hb dX5_tellStep_37 (by decide) (fun c_37 => ?_) (fun c_37 => ?_)
    · refine lv_aload_n hx hb dX5_tellStep_48 rfl (lv_at hl 0 rfl) ?_
      refine va_get (ci := 4) (v := .ref wk) (C := RX5) (T := TX5) (N := 14) hx hb hts inG_X5 hown hK hP 0 rfl rfl 12 (by decide) (hts _ tw_1_129) (fun _ h9 => h9) rfl dX5_tellStep_49 ?_
      refine lv_aload_n hx hb dX5_tellStep_52 rfl (lv_at hl 1 rfl) ?_
      refine va_getN (ci := 2) (v := .int cn) (C := RX3) (T := TX3) (N := 4) hx hb hts inG_X3 hown hK hP (ni + 3) hno rfl 1 (by decide) (hE.w tn_3_52 rfl) (fun _ h9 => h9) rfl dX5_tellStep_53 ?_
      refine ck_runQ (wr := [(d, .inr (4, [.ref fa, .int fc, .int cc, .ref ma, .ref da, .int pr, .ref ba, .int bc, .int nc, .int lf, .int mi, .ref tr, .ref wk, .ref sd]))]) (va_runV (C := RX4) (As := [.int cn]) (rest := []) ⟨hx, hb, hml, hown, hts⟩ (c_bindAll l D H.size wk wkc cR f1_1 n1_2 z1_3 cn (ok_of hq_4 (r_imply_ok hN2.2 hn))) (cw_V (n := 1) hts tw_2_220 tw_2_217 tw_2_218 tw_1_3 tw_2_219 (by decide +kernel) ⟨by decide, by decide⟩) ⟨pre.blind, va_recv (q := (RX4, TX4, 3)) hK hP (ci := 3) (q0 := 1) rfl rfl, fun U hU hW => ⟨rfl, pre.of (wc := [(wk, .inr (3, [.ref wkc, .int n1_2, .int z1_3])), (wkc, .inl (cR, 512, .inl f1_1))]) (tysc := [(cR, .int)]) (tk := [0]) hP.left hD.left hK hS hA hE hZ [1, 2] (by decide) rfl rfl rfl U hU hW⟩⟩ rfl rfl hl.1 rfl (lv_room (Nat.le_of_ble_eq_true rfl)) dX5_tellStep_56 ⟨by decide, by decide⟩) hP hD hK hS hA [1, 2] [0] rfl rfl (by decide) (by decide) (fun v u H locs hw hP hD hK9 hS => ?_)
      obtain ⟨f1_5, n1_6, z1_7⟩ := u
      have hw : v = none ∧ r_bindAll cn f1_1 n1_2 z1_3 = (f1_5, n1_6, z1_7) := hw
      obtain ⟨rfl, hq_8⟩ := hw
      have hP : va_P D vwCl ([(d, .inr (4, [.ref fa, .int fc, .int cc, .ref ma, .ref da, .int pr, .ref ba, .int bc, .int nc, .int lf, .int mi, .ref tr, .ref wk, .ref sd])), (wk, .inr (3, [.ref wkc, .int n1_6, .int z1_7])), (wkc, .inl (cR, 512, .inl f1_5))] ++ po) H := hP
      have hD : va_D _ ([(d, .inr (4, [.ref fa, .int fc, .int cc, .ref ma, .ref da, .int pr, .ref ba, .int bc, .int nc, .int lf, .int mi, .ref tr, .ref wk, .ref sd])), (wk, .inr (3, [.ref wkc, .int n1_6, .int z1_7])), (wkc, .inl (cR, 512, .inl f1_5))] ++ po) := hD
      refine W.eq (g2 := F0 m 59 ls []) rfl ?_
      exact ck_vret ⟨f1_5, n1_6, z1_7⟩ hx hb hr hlocks ⟨rfl, (t_row_of (t_form_i c_5 hq_4) (t_bind_a c_37 hq_8))⟩ (hP.part [0, 1, 2] rfl) (hK.sub [0] rfl) (hD.part [0, 1, 2] (by decide) rfl) hS (by decide) (by decide) dX5_tellStep_59
    · refine lv_aload_n hx hb dX5_tellStep_40 rfl (lv_at hl 1 rfl) ?_
      refine va_getN (ci := 2) (v := .int ki) (C := RX3) (T := TX3) (N := 4) hx hb hts inG_X3 hown hK hP (ni + 3) hno rfl 0 (by decide) (hE.w tn_3_50 rfl) (fun _ h9 => h9) rfl dX5_tellStep_41 ?_
      refine lv_iconst (v := 4) hx hb dX5_tellStep_44 (by decide) ?_
      refine lv_icmp_ne (tgt := 59) hx hb dX5_tellStep_45 (by decide) (fun c_45 => ?_) (fun c_45 => ?_)
      · exact ck_vret ⟨f1_1, n1_2, z1_3⟩ hx hb hr hlocks ⟨rfl, (t_row_of (t_form_i c_5 hq_4) (t_bind_c c_37 c_45))⟩ (hP.part [0, 1, 2] rfl) (hK.sub [0] rfl) (hD.part [0, 1, 2] (by decide) rfl) hS (by decide) (by decide) dX5_tellStep_59
      · refine lv_aload_n hx hb dX5_tellStep_48 rfl (lv_at hl 0 rfl) ?_
        refine va_get (ci := 4) (v := .ref wk) (C := RX5) (T := TX5) (N := 14) hx hb hts inG_X5 hown hK hP 0 rfl rfl 12 (by decide) (hts _ tw_1_129) (fun _ h9 => h9) rfl dX5_tellStep_49 ?_
        refine lv_aload_n hx hb dX5_tellStep_52 rfl (lv_at hl 1 rfl) ?_
        refine va_getN (ci := 2) (v := .int cn) (C := RX3) (T := TX3) (N := 4) hx hb hts inG_X3 hown hK hP (ni + 3) hno rfl 1 (by decide) (hE.w tn_3_52 rfl) (fun _ h9 => h9) rfl dX5_tellStep_53 ?_
        refine ck_runQ (wr := [(d, .inr (4, [.ref fa, .int fc, .int cc, .ref ma, .ref da, .int pr, .ref ba, .int bc, .int nc, .int lf, .int mi, .ref tr, .ref wk, .ref sd]))]) (va_runV (C := RX4) (As := [.int cn]) (rest := []) ⟨hx, hb, hml, hown, hts⟩ (c_bindAll l D H.size wk wkc cR f1_1 n1_2 z1_3 cn (ok_of hq_4 (r_imply_ok hN2.2 hn))) (cw_V (n := 1) hts tw_2_220 tw_2_217 tw_2_218 tw_1_3 tw_2_219 (by decide +kernel) ⟨by decide, by decide⟩) ⟨pre.blind, va_recv (q := (RX4, TX4, 3)) hK hP (ci := 3) (q0 := 1) rfl rfl, fun U hU hW => ⟨rfl, pre.of (wc := [(wk, .inr (3, [.ref wkc, .int n1_2, .int z1_3])), (wkc, .inl (cR, 512, .inl f1_1))]) (tysc := [(cR, .int)]) (tk := [0]) hP.left hD.left hK hS hA hE hZ [1, 2] (by decide) rfl rfl rfl U hU hW⟩⟩ rfl rfl hl.1 rfl (lv_room (Nat.le_of_ble_eq_true rfl)) dX5_tellStep_56 ⟨by decide, by decide⟩) hP hD hK hS hA [1, 2] [0] rfl rfl (by decide) (by decide) (fun v u H locs hw hP hD hK9 hS => ?_)
        obtain ⟨f1_9, n1_10, z1_11⟩ := u
        have hw : v = none ∧ r_bindAll cn f1_1 n1_2 z1_3 = (f1_9, n1_10, z1_11) := hw
        obtain ⟨rfl, hq_12⟩ := hw
        have hP : va_P D vwCl ([(d, .inr (4, [.ref fa, .int fc, .int cc, .ref ma, .ref da, .int pr, .ref ba, .int bc, .int nc, .int lf, .int mi, .ref tr, .ref wk, .ref sd])), (wk, .inr (3, [.ref wkc, .int n1_10, .int z1_11])), (wkc, .inl (cR, 512, .inl f1_9))] ++ po) H := hP
        have hD : va_D _ ([(d, .inr (4, [.ref fa, .int fc, .int cc, .ref ma, .ref da, .int pr, .ref ba, .int bc, .int nc, .int lf, .int mi, .ref tr, .ref wk, .ref sd])), (wk, .inr (3, [.ref wkc, .int n1_10, .int z1_11])), (wkc, .inl (cR, 512, .inl f1_9))] ++ po) := hD
        refine W.eq (g2 := F0 m 59 ls []) rfl ?_
        exact ck_vret ⟨f1_9, n1_10, z1_11⟩ hx hb hr hlocks ⟨rfl, (t_row_of (t_form_i c_5 hq_4) (t_bind_b c_37 c_45 hq_12))⟩ (hP.part [0, 1, 2] rfl) (hK.sub [0] rfl) (hD.part [0, 1, 2] (by decide) rfl) hS (by decide) (by decide) dX5_tellStep_59
  · refine lv_aload_n hx hb dX5_tellStep_8 rfl (lv_at hl 0 rfl) ?_
    refine va_get (ci := 4) (v := .ref wk) (C := RX5) (T := TX5) (N := 14) hx hb hts inG_X5 hown hK hP 0 rfl rfl 12 (by decide) (hts _ tw_1_129) (fun _ h9 => h9) rfl dX5_tellStep_9 ?_
    refine lv_aload_n hx hb dX5_tellStep_12 rfl (lv_at hl 1 rfl) ?_
    refine va_getN (ci := 2) (v := .ref o2) (C := RX3) (T := TX3) (N := 4) hx hb hts inG_X3 hown hK hP (ni + 3) hno rfl 2 (by decide) (hE.w tn_3_54 rfl) (fun _ h9 => h9) rfl dX5_tellStep_13 ?_
    have hP : va_P D vwCl ([(d, .inr (4, [.ref fa, .int fc, .int cc, .ref ma, .ref da, .int pr, .ref ba, .int bc, .int nc, .int lf, .int mi, .ref tr, .ref wk, .ref sd])), (wk, .inr (3, [.ref wkc, .int n, .int z])), (wkc, .inl (cR, 512, .inl f))] ++ po) s.heap := hP
    have hD : va_D _ ([(d, .inr (4, [.ref fa, .int fc, .int cc, .ref ma, .ref da, .int pr, .ref ba, .int bc, .int nc, .int lf, .int mi, .ref tr, .ref wk, .ref sd])), (wk, .inr (3, [.ref wkc, .int n, .int z])), (wkc, .inl (cR, 512, .inl f))] ++ po) := hD
    refine ck_runP (wr := [(d, .inr (4, [.ref fa, .int fc, .int cc, .ref ma, .ref da, .int pr, .ref ba, .int bc, .int nc, .int lf, .int mi, .ref tr, .ref wk, .ref sd]))]) (rx := fun u => [(wk, .inr (3, [.ref wkc, .int u.2.1, .int u.2.2])), (wkc, .inl (cR, 512, .inl u.1))]) (pl1 := fun u => po) (va_runV (C := RX4) (As := [.ref o2]) (rest := []) ⟨hx, hb, hml, hown, hts⟩ (c_joinForm l D s.heap.size wk wkc cR f n z po j2 i2 o2 q2 F2.1 F2.2 (fm_whole F2.2 F2.1) ((fm F2.2 F2.1).2) hgo2 hgc2 hN2 hn) (cw_V (n := 1) hts tw_2_153 tw_2_154 tw_2_155 tw_1_3 tw_2_156 (by decide +kernel) ⟨by decide, by decide⟩) ⟨pre.blind, va_recv (q := (RX4, TX4, 3)) hK hP (ci := 3) (q0 := 1) rfl rfl, fun U hU hW => ⟨rfl, pre.ofP (cx := [(wk, .inr (3, [.ref wkc, .int n, .int z])), (wkc, .inl (cR, 512, .inl f))]) (pl := po) (tysc := [(cR, .int)]) (tk := [0]) hP hD hK hS hA hE hZ [1, 2] (by decide) rfl rfl U hU hW⟩⟩ rfl rfl hl.1 rfl (lv_room (Nat.le_of_ble_eq_true rfl)) dX5_tellStep_16 ⟨by decide, by decide⟩) hP hD hK hS hA (fun _ => rfl) [1, 2] [0] rfl rfl (by decide) (by decide) (fun v u H locs hw hP hD hK9 hS => ?_)
    obtain ⟨f1_13, n1_14, z1_15⟩ := u
    have hw : v = none ∧ r_joinForm F2.2 F2.1 f n z = (f1_13, n1_14, z1_15) := hw
    obtain ⟨rfl, hq_16⟩ := hw
    have hP : va_P D vwCl ([(d, .inr (4, [.ref fa, .int fc, .int cc, .ref ma, .ref da, .int pr, .ref ba, .int bc, .int nc, .int lf, .int mi, .ref tr, .ref wk, .ref sd])), (wk, .inr (3, [.ref wkc, .int n1_14, .int z1_15])), (wkc, .inl (cR, 512, .inl f1_13))] ++ po) H := hP
    have hD : va_D _ ([(d, .inr (4, [.ref fa, .int fc, .int cc, .ref ma, .ref da, .int pr, .ref ba, .int bc, .int nc, .int lf, .int mi, .ref tr, .ref wk, .ref sd])), (wk, .inr (3, [.ref wkc, .int n1_14, .int z1_15])), (wkc, .inl (cR, 512, .inl f1_13))] ++ po) := hD
    refine W.eq (g2 := F0 m 19 ls []) rfl ?_
    refine lv_goto (tgt := 33) hx hb dX5_tellStep_19 (by decide) ?_
    refine lv_aload_n hx hb dX5_tellStep_33 rfl (lv_at hl 1 rfl) ?_
    refine va_getN (ci := 2) (v := .int ki) (C := RX3) (T := TX3) (N := 4) hx hb hts inG_X3 hown hK hP (ni + 3) hno rfl 0 (by decide) (hE.w tn_3_50 rfl) (fun _ h9 => h9) rfl dX5_tellStep_34 ?_
    refine lv_if_eq (tgt := 48) hx hb dX5_tellStep_37 (by decide) (fun c_37 => ?_) (fun c_37 => ?_)
    · refine lv_aload_n hx hb dX5_tellStep_48 rfl (lv_at hl 0 rfl) ?_
      refine va_get (ci := 4) (v := .ref wk) (C := RX5) (T := TX5) (N := 14) hx hb hts inG_X5 hown hK hP 0 rfl rfl 12 (by decide) (hts _ tw_1_129) (fun _ h9 => h9) rfl dX5_tellStep_49 ?_
      refine lv_aload_n hx hb dX5_tellStep_52 rfl (lv_at hl 1 rfl) ?_
      refine va_getN (ci := 2) (v := .int cn) (C := RX3) (T := TX3) (N := 4) hx hb hts inG_X3 hown hK hP (ni + 3) hno rfl 1 (by decide) (hE.w tn_3_52 rfl) (fun _ h9 => h9) rfl dX5_tellStep_53 ?_
      refine ck_runQ (wr := [(d, .inr (4, [.ref fa, .int fc, .int cc, .ref ma, .ref da, .int pr, .ref ba, .int bc, .int nc, .int lf, .int mi, .ref tr, .ref wk, .ref sd]))]) (va_runV (C := RX4) (As := [.int cn]) (rest := []) ⟨hx, hb, hml, hown, hts⟩ (c_bindAll l D H.size wk wkc cR f1_13 n1_14 z1_15 cn (ok_of hq_16 (r_joinCodes_ok (nI_512 hN2.2) hn))) (cw_V (n := 1) hts tw_2_220 tw_2_217 tw_2_218 tw_1_3 tw_2_219 (by decide +kernel) ⟨by decide, by decide⟩) ⟨pre.blind, va_recv (q := (RX4, TX4, 3)) hK hP (ci := 3) (q0 := 1) rfl rfl, fun U hU hW => ⟨rfl, pre.of (wc := [(wk, .inr (3, [.ref wkc, .int n1_14, .int z1_15])), (wkc, .inl (cR, 512, .inl f1_13))]) (tysc := [(cR, .int)]) (tk := [0]) hP.left hD.left hK hS hA hE hZ [1, 2] (by decide) rfl rfl rfl U hU hW⟩⟩ rfl rfl hl.1 rfl (lv_room (Nat.le_of_ble_eq_true rfl)) dX5_tellStep_56 ⟨by decide, by decide⟩) hP hD hK hS hA [1, 2] [0] rfl rfl (by decide) (by decide) (fun v u H locs hw hP hD hK9 hS => ?_)
      obtain ⟨f1_17, n1_18, z1_19⟩ := u
      have hw : v = none ∧ r_bindAll cn f1_13 n1_14 z1_15 = (f1_17, n1_18, z1_19) := hw
      obtain ⟨rfl, hq_20⟩ := hw
      have hP : va_P D vwCl ([(d, .inr (4, [.ref fa, .int fc, .int cc, .ref ma, .ref da, .int pr, .ref ba, .int bc, .int nc, .int lf, .int mi, .ref tr, .ref wk, .ref sd])), (wk, .inr (3, [.ref wkc, .int n1_18, .int z1_19])), (wkc, .inl (cR, 512, .inl f1_17))] ++ po) H := hP
      have hD : va_D _ ([(d, .inr (4, [.ref fa, .int fc, .int cc, .ref ma, .ref da, .int pr, .ref ba, .int bc, .int nc, .int lf, .int mi, .ref tr, .ref wk, .ref sd])), (wk, .inr (3, [.ref wkc, .int n1_18, .int z1_19])), (wkc, .inl (cR, 512, .inl f1_17))] ++ po) := hD
      refine W.eq (g2 := F0 m 59 ls []) rfl ?_
      exact ck_vret ⟨f1_17, n1_18, z1_19⟩ hx hb hr hlocks ⟨rfl, (t_row_of (t_form_j c_5 hq_16) (t_bind_a c_37 hq_20))⟩ (hP.part [0, 1, 2] rfl) (hK.sub [0] rfl) (hD.part [0, 1, 2] (by decide) rfl) hS (by decide) (by decide) dX5_tellStep_59
    · refine lv_aload_n hx hb dX5_tellStep_40 rfl (lv_at hl 1 rfl) ?_
      refine va_getN (ci := 2) (v := .int ki) (C := RX3) (T := TX3) (N := 4) hx hb hts inG_X3 hown hK hP (ni + 3) hno rfl 0 (by decide) (hE.w tn_3_50 rfl) (fun _ h9 => h9) rfl dX5_tellStep_41 ?_
      refine lv_iconst (v := 4) hx hb dX5_tellStep_44 (by decide) ?_
      refine lv_icmp_ne (tgt := 59) hx hb dX5_tellStep_45 (by decide) (fun c_45 => ?_) (fun c_45 => ?_)
      · exact ck_vret ⟨f1_13, n1_14, z1_15⟩ hx hb hr hlocks ⟨rfl, (t_row_of (t_form_j c_5 hq_16) (t_bind_c c_37 c_45))⟩ (hP.part [0, 1, 2] rfl) (hK.sub [0] rfl) (hD.part [0, 1, 2] (by decide) rfl) hS (by decide) (by decide) dX5_tellStep_59
      · refine lv_aload_n hx hb dX5_tellStep_48 rfl (lv_at hl 0 rfl) ?_
        refine va_get (ci := 4) (v := .ref wk) (C := RX5) (T := TX5) (N := 14) hx hb hts inG_X5 hown hK hP 0 rfl rfl 12 (by decide) (hts _ tw_1_129) (fun _ h9 => h9) rfl dX5_tellStep_49 ?_
        refine lv_aload_n hx hb dX5_tellStep_52 rfl (lv_at hl 1 rfl) ?_
        refine va_getN (ci := 2) (v := .int cn) (C := RX3) (T := TX3) (N := 4) hx hb hts inG_X3 hown hK hP (ni + 3) hno rfl 1 (by decide) (hE.w tn_3_52 rfl) (fun _ h9 => h9) rfl dX5_tellStep_53 ?_
        refine ck_runQ (wr := [(d, .inr (4, [.ref fa, .int fc, .int cc, .ref ma, .ref da, .int pr, .ref ba, .int bc, .int nc, .int lf, .int mi, .ref tr, .ref wk, .ref sd]))]) (va_runV (C := RX4) (As := [.int cn]) (rest := []) ⟨hx, hb, hml, hown, hts⟩ (c_bindAll l D H.size wk wkc cR f1_13 n1_14 z1_15 cn (ok_of hq_16 (r_joinCodes_ok (nI_512 hN2.2) hn))) (cw_V (n := 1) hts tw_2_220 tw_2_217 tw_2_218 tw_1_3 tw_2_219 (by decide +kernel) ⟨by decide, by decide⟩) ⟨pre.blind, va_recv (q := (RX4, TX4, 3)) hK hP (ci := 3) (q0 := 1) rfl rfl, fun U hU hW => ⟨rfl, pre.of (wc := [(wk, .inr (3, [.ref wkc, .int n1_14, .int z1_15])), (wkc, .inl (cR, 512, .inl f1_13))]) (tysc := [(cR, .int)]) (tk := [0]) hP.left hD.left hK hS hA hE hZ [1, 2] (by decide) rfl rfl rfl U hU hW⟩⟩ rfl rfl hl.1 rfl (lv_room (Nat.le_of_ble_eq_true rfl)) dX5_tellStep_56 ⟨by decide, by decide⟩) hP hD hK hS hA [1, 2] [0] rfl rfl (by decide) (by decide) (fun v u H locs hw hP hD hK9 hS => ?_)
        obtain ⟨f1_21, n1_22, z1_23⟩ := u
        have hw : v = none ∧ r_bindAll cn f1_13 n1_14 z1_15 = (f1_21, n1_22, z1_23) := hw
        obtain ⟨rfl, hq_24⟩ := hw
        have hP : va_P D vwCl ([(d, .inr (4, [.ref fa, .int fc, .int cc, .ref ma, .ref da, .int pr, .ref ba, .int bc, .int nc, .int lf, .int mi, .ref tr, .ref wk, .ref sd])), (wk, .inr (3, [.ref wkc, .int n1_22, .int z1_23])), (wkc, .inl (cR, 512, .inl f1_21))] ++ po) H := hP
        have hD : va_D _ ([(d, .inr (4, [.ref fa, .int fc, .int cc, .ref ma, .ref da, .int pr, .ref ba, .int bc, .int nc, .int lf, .int mi, .ref tr, .ref wk, .ref sd])), (wk, .inr (3, [.ref wkc, .int n1_22, .int z1_23])), (wkc, .inl (cR, 512, .inl f1_21))] ++ po) := hD
        refine W.eq (g2 := F0 m 59 ls []) rfl ?_
        exact ck_vret ⟨f1_21, n1_22, z1_23⟩ hx hb hr hlocks ⟨rfl, (t_row_of (t_form_j c_5 hq_16) (t_bind_b c_37 c_45 hq_24))⟩ (hP.part [0, 1, 2] rfl) (hK.sub [0] rfl) (hD.part [0, 1, 2] (by decide) rfl) hS (by decide) (by decide) dX5_tellStep_59
set_option maxHeartbeats 4000000 in
set_option maxRecDepth 100000 in
theorem c_tell_n (l : Launch) (D : va_G) (sz : Nat) (d fa ma da ba wk sd tr : Nat) (fc cc pr bc nc lf mi : Int32) (wkc : Nat) (cR : ClassId) (f : Nat → Int32) (n z : Int32) (po : va_W) (hn : r_ok n) (nn ni : Nat) (be : Option Nat) (ki cn : Int32) (hno : po[ni]? = some (nn, .inr (2, [.int ki, .int cn, .null, va_rf be]))) : cM l yX5_tellStep (.code yX5_tellStep cX5_tellStep 2 none) 22 690 0 0 [.ref d, .ref nn] D [(cR, .int)] ([(d, .inr (4, [.ref fa, .int fc, .int cc, .ref ma, .ref da, .int pr, .ref ba, .int bc, .int nc, .int lf, .int mi, .ref tr, .ref wk, .ref sd])), (wk, .inr (3, [.ref wkc, .int n, .int z])), (wkc, .inl (cR, 512, .inl f))] ++ po) sz (S := (Nat → Int32) × Int32 × Int32) (fun v u => v = none ∧ t_row ki cn none f n z = (u.1, u.2.1, u.2.2)) (fun u => ([(d, .inr (4, [.ref fa, .int fc, .int cc, .ref ma, .ref da, .int pr, .ref ba, .int bc, .int nc, .int lf, .int mi, .ref tr, .ref wk, .ref sd])), (wk, .inr (3, [.ref wkc, .int u.2.1, .int u.2.2])), (wkc, .inl (cR, 512, .inl u.1))] ++ po)) (fun u => [(cR, .int)]) := by
  refine cM_of (by decide) (Nat.le_of_ble_eq_true rfl) ?_
  intro p e s m below meth c ls hF hsz hP hK hD hE hZ hA hl
  obtain ⟨hx, hb, hr, hml, hown, hlocks, hnm, htb, hts⟩ := hF
  have hown : s.vm.findClass RX5 = some m.cls := hown
  have hl : lv_has ls 2 [(0, .ref d), (1, .ref nn)] := hl
  have hS : va_S (va_A ([(d, .inr (4, [.ref fa, .int fc, .int cc, .ref ma, .ref da, .int pr, .ref ba, .int bc, .int nc, .int lf, .int mi, .ref tr, .ref wk, .ref sd])), (wk, .inr (3, [.ref wkc, .int n, .int z])), (wkc, .inl (cR, 512, .inl f))] ++ po) sz) s.heap s.heap [] := va_S.rf
  refine lv_aload_n hx hb dX5_tellStep_0 rfl (lv_at hl 1 rfl) ?_
  refine va_getN (ci := 2) (v := .int ki) (C := RX3) (T := TX3) (N := 4) hx hb hts inG_X3 hown hK hP (ni + 3) hno rfl 0 (by decide) (hE.w tn_3_50 rfl) (fun _ h9 => h9) rfl dX5_tellStep_1 ?_
  refine lv_iconst (v := 2) hx hb dX5_tellStep_4 (by decide) ?_
  refine lv_icmp_ne (tgt := 22) hx hb dX5_tellStep_5 (by decide) (fun c_5 => ?_) (fun c_5 => ?_)
  · refine lv_aload_n hx hb dX5_tellStep_22 rfl (lv_at hl 0 rfl) ?_
    refine va_get (ci := 4) (v := .ref wk) (C := RX5) (T := TX5) (N := 14) hx hb hts inG_X5 hown hK hP 0 rfl rfl 12 (by decide) (hts _ tw_1_129) (fun _ h9 => h9) rfl dX5_tellStep_23 ?_
    refine lv_aload_n hx hb dX5_tellStep_26 rfl (lv_at hl 1 rfl) ?_
    refine va_getN (ci := 2) (v := .null) (C := RX3) (T := TX3) (N := 4) hx hb hts inG_X3 hown hK hP (ni + 3) hno rfl 2 (by decide) (hE.w tn_3_54 rfl) (fun _ h9 => h9) rfl dX5_tellStep_27 ?_
    refine ck_runQ (wr := [(d, .inr (4, [.ref fa, .int fc, .int cc, .ref ma, .ref da, .int pr, .ref ba, .int bc, .int nc, .int lf, .int mi, .ref tr, .ref wk, .ref sd]))]) (va_runV (C := RX4) (As := [.null]) (rest := []) ⟨hx, hb, hml, hown, hts⟩ (c_implyN l D s.heap.size wk wkc cR f n z) (cw_V (n := 1) hts tw_2_194 tw_2_195 tw_2_196 tw_1_3 tw_2_197 (by decide +kernel) ⟨by decide, by decide⟩) ⟨pre.blind, va_recv (q := (RX4, TX4, 3)) hK hP (ci := 3) (q0 := 1) rfl rfl, fun U hU hW => ⟨rfl, pre.of (wc := [(wk, .inr (3, [.ref wkc, .int n, .int z])), (wkc, .inl (cR, 512, .inl f))]) (tysc := [(cR, .int)]) (tk := [0]) hP.left hD.left hK hS hA hE hZ [1, 2] (by decide) rfl rfl rfl U hU hW⟩⟩ rfl rfl hl.1 rfl (lv_room (Nat.le_of_ble_eq_true rfl)) dX5_tellStep_30 ⟨by decide, by decide⟩) hP hD hK hS hA [1, 2] [0] rfl rfl (by decide) (by decide) (fun v u H locs hw hP hD hK9 hS => ?_)
    have hw : v = none := hw
    subst hw
    have hP : va_P D vwCl ([(d, .inr (4, [.ref fa, .int fc, .int cc, .ref ma, .ref da, .int pr, .ref ba, .int bc, .int nc, .int lf, .int mi, .ref tr, .ref wk, .ref sd])), (wk, .inr (3, [.ref wkc, .int n, .int z])), (wkc, .inl (cR, 512, .inl f))] ++ po) H := hP
    have hD : va_D _ ([(d, .inr (4, [.ref fa, .int fc, .int cc, .ref ma, .ref da, .int pr, .ref ba, .int bc, .int nc, .int lf, .int mi, .ref tr, .ref wk, .ref sd])), (wk, .inr (3, [.ref wkc, .int n, .int z])), (wkc, .inl (cR, 512, .inl f))] ++ po) := hD
    refine W.eq (g2 := F0 m 33 ls []) rfl ?_
    refine lv_aload_n hx hb dX5_tellStep_33 rfl (lv_at hl 1 rfl) ?_
    refine va_getN (ci := 2) (v := .int ki) (C := RX3) (T := TX3) (N := 4) hx hb hts inG_X3 hown hK hP (ni + 3) hno rfl 0 (by decide) (hE.w tn_3_50 rfl) (fun _ h9 => h9) rfl dX5_tellStep_34 ?_
    refine lv_if_eq (tgt := 48) hx hb dX5_tellStep_37 (by decide) (fun c_37 => ?_) (fun c_37 => ?_)
    · refine lv_aload_n hx hb dX5_tellStep_48 rfl (lv_at hl 0 rfl) ?_
      refine va_get (ci := 4) (v := .ref wk) (C := RX5) (T := TX5) (N := 14) hx hb hts inG_X5 hown hK hP 0 rfl rfl 12 (by decide) (hts _ tw_1_129) (fun _ h9 => h9) rfl dX5_tellStep_49 ?_
      refine lv_aload_n hx hb dX5_tellStep_52 rfl (lv_at hl 1 rfl) ?_
      refine va_getN (ci := 2) (v := .int cn) (C := RX3) (T := TX3) (N := 4) hx hb hts inG_X3 hown hK hP (ni + 3) hno rfl 1 (by decide) (hE.w tn_3_52 rfl) (fun _ h9 => h9) rfl dX5_tellStep_53 ?_
      refine ck_runQ (wr := [(d, .inr (4, [.ref fa, .int fc, .int cc, .ref ma, .ref da, .int pr, .ref ba, .int bc, .int nc, .int lf, .int mi, .ref tr, .ref wk, .ref sd]))]) (va_runV (C := RX4) (As := [.int cn]) (rest := []) ⟨hx, hb, hml, hown, hts⟩ (c_bindAll l D H.size wk wkc cR f n z cn hn) (cw_V (n := 1) hts tw_2_220 tw_2_217 tw_2_218 tw_1_3 tw_2_219 (by decide +kernel) ⟨by decide, by decide⟩) ⟨pre.blind, va_recv (q := (RX4, TX4, 3)) hK hP (ci := 3) (q0 := 1) rfl rfl, fun U hU hW => ⟨rfl, pre.of (wc := [(wk, .inr (3, [.ref wkc, .int n, .int z])), (wkc, .inl (cR, 512, .inl f))]) (tysc := [(cR, .int)]) (tk := [0]) hP.left hD.left hK hS hA hE hZ [1, 2] (by decide) rfl rfl rfl U hU hW⟩⟩ rfl rfl hl.1 rfl (lv_room (Nat.le_of_ble_eq_true rfl)) dX5_tellStep_56 ⟨by decide, by decide⟩) hP hD hK hS hA [1, 2] [0] rfl rfl (by decide) (by decide) (fun v u H locs hw hP hD hK9 hS => ?_)
      obtain ⟨f1_1, n1_2, z1_3⟩ := u
      have hw : v = none ∧ r_bindAll cn f n z = (f1_1, n1_2, z1_3) := hw
      obtain ⟨rfl, hq_4⟩ := hw
      have hP : va_P D vwCl ([(d, .inr (4, [.ref fa, .int fc, .int cc, .ref ma, .ref da, .int pr, .ref ba, .int bc, .int nc, .int lf, .int mi, .ref tr, .ref wk, .ref sd])), (wk, .inr (3, [.ref wkc, .int n1_2, .int z1_3])), (wkc, .inl (cR, 512, .inl f1_1))] ++ po) H := hP
      have hD : va_D _ ([(d, .inr (4, [.ref fa, .int fc, .int cc, .ref ma, .ref da, .int pr, .ref ba, .int bc, .int nc, .int lf, .int mi, .ref tr, .ref wk, .ref sd])), (wk, .inr (3, [.ref wkc, .int n1_2, .int z1_3])), (wkc, .inl (cR, 512, .inl f1_1))] ++ po) := hD
      refine W.eq (g2 := F0 m 59 ls []) rfl ?_
      exact ck_vret ⟨f1_1, n1_2, z1_3⟩ hx hb hr hlocks ⟨rfl, (t_row_of (show t_form ki none f n z = (f, n, z) from rfl) (t_bind_a c_37 hq_4))⟩ (hP.part [0, 1, 2] rfl) (hK.sub [0] rfl) (hD.part [0, 1, 2] (by decide) rfl) hS (by decide) (by decide) dX5_tellStep_59
    · refine lv_aload_n hx hb dX5_tellStep_40 rfl (lv_at hl 1 rfl) ?_
      refine va_getN (ci := 2) (v := .int ki) (C := RX3) (T := TX3) (N := 4) hx hb hts inG_X3 hown hK hP (ni + 3) hno rfl 0 (by decide) (hE.w tn_3_50 rfl) (fun _ h9 => h9) rfl dX5_tellStep_41 ?_
      refine lv_iconst (v := 4) hx hb dX5_tellStep_44 (by decide) ?_
      refine lv_icmp_ne (tgt := 59) hx hb dX5_tellStep_45 (by decide) (fun c_45 => ?_) (fun c_45 => ?_)
      · exact ck_vret ⟨f, n, z⟩ hx hb hr hlocks ⟨rfl, (t_row_of (show t_form ki none f n z = (f, n, z) from rfl) (t_bind_c c_37 c_45))⟩ (hP.part [0, 1, 2] rfl) (hK.sub [0] rfl) (hD.part [0, 1, 2] (by decide) rfl) hS (by decide) (by decide) dX5_tellStep_59
      · refine lv_aload_n hx hb dX5_tellStep_48 rfl (lv_at hl 0 rfl) ?_
        refine va_get (ci := 4) (v := .ref wk) (C := RX5) (T := TX5) (N := 14) hx hb hts inG_X5 hown hK hP 0 rfl rfl 12 (by decide) (hts _ tw_1_129) (fun _ h9 => h9) rfl dX5_tellStep_49 ?_
        refine lv_aload_n hx hb dX5_tellStep_52 rfl (lv_at hl 1 rfl) ?_
        refine va_getN (ci := 2) (v := .int cn) (C := RX3) (T := TX3) (N := 4) hx hb hts inG_X3 hown hK hP (ni + 3) hno rfl 1 (by decide) (hE.w tn_3_52 rfl) (fun _ h9 => h9) rfl dX5_tellStep_53 ?_
        refine ck_runQ (wr := [(d, .inr (4, [.ref fa, .int fc, .int cc, .ref ma, .ref da, .int pr, .ref ba, .int bc, .int nc, .int lf, .int mi, .ref tr, .ref wk, .ref sd]))]) (va_runV (C := RX4) (As := [.int cn]) (rest := []) ⟨hx, hb, hml, hown, hts⟩ (c_bindAll l D H.size wk wkc cR f n z cn hn) (cw_V (n := 1) hts tw_2_220 tw_2_217 tw_2_218 tw_1_3 tw_2_219 (by decide +kernel) ⟨by decide, by decide⟩) ⟨pre.blind, va_recv (q := (RX4, TX4, 3)) hK hP (ci := 3) (q0 := 1) rfl rfl, fun U hU hW => ⟨rfl, pre.of (wc := [(wk, .inr (3, [.ref wkc, .int n, .int z])), (wkc, .inl (cR, 512, .inl f))]) (tysc := [(cR, .int)]) (tk := [0]) hP.left hD.left hK hS hA hE hZ [1, 2] (by decide) rfl rfl rfl U hU hW⟩⟩ rfl rfl hl.1 rfl (lv_room (Nat.le_of_ble_eq_true rfl)) dX5_tellStep_56 ⟨by decide, by decide⟩) hP hD hK hS hA [1, 2] [0] rfl rfl (by decide) (by decide) (fun v u H locs hw hP hD hK9 hS => ?_)
        obtain ⟨f1_5, n1_6, z1_7⟩ := u
        have hw : v = none ∧ r_bindAll cn f n z = (f1_5, n1_6, z1_7) := hw
        obtain ⟨rfl, hq_8⟩ := hw
        have hP : va_P D vwCl ([(d, .inr (4, [.ref fa, .int fc, .int cc, .ref ma, .ref da, .int pr, .ref ba, .int bc, .int nc, .int lf, .int mi, .ref tr, .ref wk, .ref sd])), (wk, .inr (3, [.ref wkc, .int n1_6, .int z1_7])), (wkc, .inl (cR, 512, .inl f1_5))] ++ po) H := hP
        have hD : va_D _ ([(d, .inr (4, [.ref fa, .int fc, .int cc, .ref ma, .ref da, .int pr, .ref ba, .int bc, .int nc, .int lf, .int mi, .ref tr, .ref wk, .ref sd])), (wk, .inr (3, [.ref wkc, .int n1_6, .int z1_7])), (wkc, .inl (cR, 512, .inl f1_5))] ++ po) := hD
        refine W.eq (g2 := F0 m 59 ls []) rfl ?_
        exact ck_vret ⟨f1_5, n1_6, z1_7⟩ hx hb hr hlocks ⟨rfl, (t_row_of (show t_form ki none f n z = (f, n, z) from rfl) (t_bind_b c_37 c_45 hq_8))⟩ (hP.part [0, 1, 2] rfl) (hK.sub [0] rfl) (hD.part [0, 1, 2] (by decide) rfl) hS (by decide) (by decide) dX5_tellStep_59
  · refine lv_aload_n hx hb dX5_tellStep_8 rfl (lv_at hl 0 rfl) ?_
    refine va_get (ci := 4) (v := .ref wk) (C := RX5) (T := TX5) (N := 14) hx hb hts inG_X5 hown hK hP 0 rfl rfl 12 (by decide) (hts _ tw_1_129) (fun _ h9 => h9) rfl dX5_tellStep_9 ?_
    refine lv_aload_n hx hb dX5_tellStep_12 rfl (lv_at hl 1 rfl) ?_
    refine va_getN (ci := 2) (v := .null) (C := RX3) (T := TX3) (N := 4) hx hb hts inG_X3 hown hK hP (ni + 3) hno rfl 2 (by decide) (hE.w tn_3_54 rfl) (fun _ h9 => h9) rfl dX5_tellStep_13 ?_
    refine ck_runQ (wr := [(d, .inr (4, [.ref fa, .int fc, .int cc, .ref ma, .ref da, .int pr, .ref ba, .int bc, .int nc, .int lf, .int mi, .ref tr, .ref wk, .ref sd]))]) (va_runV (C := RX4) (As := [.null]) (rest := []) ⟨hx, hb, hml, hown, hts⟩ (c_joinFormN l D s.heap.size wk wkc cR f n z) (cw_V (n := 1) hts tw_2_153 tw_2_154 tw_2_155 tw_1_3 tw_2_156 (by decide +kernel) ⟨by decide, by decide⟩) ⟨pre.blind, va_recv (q := (RX4, TX4, 3)) hK hP (ci := 3) (q0 := 1) rfl rfl, fun U hU hW => ⟨rfl, pre.of (wc := [(wk, .inr (3, [.ref wkc, .int n, .int z])), (wkc, .inl (cR, 512, .inl f))]) (tysc := [(cR, .int)]) (tk := [0]) hP.left hD.left hK hS hA hE hZ [1, 2] (by decide) rfl rfl rfl U hU hW⟩⟩ rfl rfl hl.1 rfl (lv_room (Nat.le_of_ble_eq_true rfl)) dX5_tellStep_16 ⟨by decide, by decide⟩) hP hD hK hS hA [1, 2] [0] rfl rfl (by decide) (by decide) (fun v u H locs hw hP hD hK9 hS => ?_)
    have hw : v = none := hw
    subst hw
    have hP : va_P D vwCl ([(d, .inr (4, [.ref fa, .int fc, .int cc, .ref ma, .ref da, .int pr, .ref ba, .int bc, .int nc, .int lf, .int mi, .ref tr, .ref wk, .ref sd])), (wk, .inr (3, [.ref wkc, .int n, .int z])), (wkc, .inl (cR, 512, .inl f))] ++ po) H := hP
    have hD : va_D _ ([(d, .inr (4, [.ref fa, .int fc, .int cc, .ref ma, .ref da, .int pr, .ref ba, .int bc, .int nc, .int lf, .int mi, .ref tr, .ref wk, .ref sd])), (wk, .inr (3, [.ref wkc, .int n, .int z])), (wkc, .inl (cR, 512, .inl f))] ++ po) := hD
    refine W.eq (g2 := F0 m 19 ls []) rfl ?_
    refine lv_goto (tgt := 33) hx hb dX5_tellStep_19 (by decide) ?_
    refine lv_aload_n hx hb dX5_tellStep_33 rfl (lv_at hl 1 rfl) ?_
    refine va_getN (ci := 2) (v := .int ki) (C := RX3) (T := TX3) (N := 4) hx hb hts inG_X3 hown hK hP (ni + 3) hno rfl 0 (by decide) (hE.w tn_3_50 rfl) (fun _ h9 => h9) rfl dX5_tellStep_34 ?_
    refine lv_if_eq (tgt := 48) hx hb dX5_tellStep_37 (by decide) (fun c_37 => ?_) (fun c_37 => ?_)
    · refine lv_aload_n hx hb dX5_tellStep_48 rfl (lv_at hl 0 rfl) ?_
      refine va_get (ci := 4) (v := .ref wk) (C := RX5) (T := TX5) (N := 14) hx hb hts inG_X5 hown hK hP 0 rfl rfl 12 (by decide) (hts _ tw_1_129) (fun _ h9 => h9) rfl dX5_tellStep_49 ?_
      refine lv_aload_n hx hb dX5_tellStep_52 rfl (lv_at hl 1 rfl) ?_
      refine va_getN (ci := 2) (v := .int cn) (C := RX3) (T := TX3) (N := 4) hx hb hts inG_X3 hown hK hP (ni + 3) hno rfl 1 (by decide) (hE.w tn_3_52 rfl) (fun _ h9 => h9) rfl dX5_tellStep_53 ?_
      refine ck_runQ (wr := [(d, .inr (4, [.ref fa, .int fc, .int cc, .ref ma, .ref da, .int pr, .ref ba, .int bc, .int nc, .int lf, .int mi, .ref tr, .ref wk, .ref sd]))]) (va_runV (C := RX4) (As := [.int cn]) (rest := []) ⟨hx, hb, hml, hown, hts⟩ (c_bindAll l D H.size wk wkc cR f n z cn hn) (cw_V (n := 1) hts tw_2_220 tw_2_217 tw_2_218 tw_1_3 tw_2_219 (by decide +kernel) ⟨by decide, by decide⟩) ⟨pre.blind, va_recv (q := (RX4, TX4, 3)) hK hP (ci := 3) (q0 := 1) rfl rfl, fun U hU hW => ⟨rfl, pre.of (wc := [(wk, .inr (3, [.ref wkc, .int n, .int z])), (wkc, .inl (cR, 512, .inl f))]) (tysc := [(cR, .int)]) (tk := [0]) hP.left hD.left hK hS hA hE hZ [1, 2] (by decide) rfl rfl rfl U hU hW⟩⟩ rfl rfl hl.1 rfl (lv_room (Nat.le_of_ble_eq_true rfl)) dX5_tellStep_56 ⟨by decide, by decide⟩) hP hD hK hS hA [1, 2] [0] rfl rfl (by decide) (by decide) (fun v u H locs hw hP hD hK9 hS => ?_)
      obtain ⟨f1_9, n1_10, z1_11⟩ := u
      have hw : v = none ∧ r_bindAll cn f n z = (f1_9, n1_10, z1_11) := hw
      obtain ⟨rfl, hq_12⟩ := hw
      have hP : va_P D vwCl ([(d, .inr (4, [.ref fa, .int fc, .int cc, .ref ma, .ref da, .int pr, .ref ba, .int bc, .int nc, .int lf, .int mi, .ref tr, .ref wk, .ref sd])), (wk, .inr (3, [.ref wkc, .int n1_10, .int z1_11])), (wkc, .inl (cR, 512, .inl f1_9))] ++ po) H := hP
      have hD : va_D _ ([(d, .inr (4, [.ref fa, .int fc, .int cc, .ref ma, .ref da, .int pr, .ref ba, .int bc, .int nc, .int lf, .int mi, .ref tr, .ref wk, .ref sd])), (wk, .inr (3, [.ref wkc, .int n1_10, .int z1_11])), (wkc, .inl (cR, 512, .inl f1_9))] ++ po) := hD
      refine W.eq (g2 := F0 m 59 ls []) rfl ?_
      exact ck_vret ⟨f1_9, n1_10, z1_11⟩ hx hb hr hlocks ⟨rfl, (t_row_of (show t_form ki none f n z = (f, n, z) from rfl) (t_bind_a c_37 hq_12))⟩ (hP.part [0, 1, 2] rfl) (hK.sub [0] rfl) (hD.part [0, 1, 2] (by decide) rfl) hS (by decide) (by decide) dX5_tellStep_59
    · refine lv_aload_n hx hb dX5_tellStep_40 rfl (lv_at hl 1 rfl) ?_
      refine va_getN (ci := 2) (v := .int ki) (C := RX3) (T := TX3) (N := 4) hx hb hts inG_X3 hown hK hP (ni + 3) hno rfl 0 (by decide) (hE.w tn_3_50 rfl) (fun _ h9 => h9) rfl dX5_tellStep_41 ?_
      refine lv_iconst (v := 4) hx hb dX5_tellStep_44 (by decide) ?_
      refine lv_icmp_ne (tgt := 59) hx hb dX5_tellStep_45 (by decide) (fun c_45 => ?_) (fun c_45 => ?_)
      · exact ck_vret ⟨f, n, z⟩ hx hb hr hlocks ⟨rfl, (t_row_of (show t_form ki none f n z = (f, n, z) from rfl) (t_bind_c c_37 c_45))⟩ (hP.part [0, 1, 2] rfl) (hK.sub [0] rfl) (hD.part [0, 1, 2] (by decide) rfl) hS (by decide) (by decide) dX5_tellStep_59
      · refine lv_aload_n hx hb dX5_tellStep_48 rfl (lv_at hl 0 rfl) ?_
        refine va_get (ci := 4) (v := .ref wk) (C := RX5) (T := TX5) (N := 14) hx hb hts inG_X5 hown hK hP 0 rfl rfl 12 (by decide) (hts _ tw_1_129) (fun _ h9 => h9) rfl dX5_tellStep_49 ?_
        refine lv_aload_n hx hb dX5_tellStep_52 rfl (lv_at hl 1 rfl) ?_
        refine va_getN (ci := 2) (v := .int cn) (C := RX3) (T := TX3) (N := 4) hx hb hts inG_X3 hown hK hP (ni + 3) hno rfl 1 (by decide) (hE.w tn_3_52 rfl) (fun _ h9 => h9) rfl dX5_tellStep_53 ?_
        refine ck_runQ (wr := [(d, .inr (4, [.ref fa, .int fc, .int cc, .ref ma, .ref da, .int pr, .ref ba, .int bc, .int nc, .int lf, .int mi, .ref tr, .ref wk, .ref sd]))]) (va_runV (C := RX4) (As := [.int cn]) (rest := []) ⟨hx, hb, hml, hown, hts⟩ (c_bindAll l D H.size wk wkc cR f n z cn hn) (cw_V (n := 1) hts tw_2_220 tw_2_217 tw_2_218 tw_1_3 tw_2_219 (by decide +kernel) ⟨by decide, by decide⟩) ⟨pre.blind, va_recv (q := (RX4, TX4, 3)) hK hP (ci := 3) (q0 := 1) rfl rfl, fun U hU hW => ⟨rfl, pre.of (wc := [(wk, .inr (3, [.ref wkc, .int n, .int z])), (wkc, .inl (cR, 512, .inl f))]) (tysc := [(cR, .int)]) (tk := [0]) hP.left hD.left hK hS hA hE hZ [1, 2] (by decide) rfl rfl rfl U hU hW⟩⟩ rfl rfl hl.1 rfl (lv_room (Nat.le_of_ble_eq_true rfl)) dX5_tellStep_56 ⟨by decide, by decide⟩) hP hD hK hS hA [1, 2] [0] rfl rfl (by decide) (by decide) (fun v u H locs hw hP hD hK9 hS => ?_)
        obtain ⟨f1_13, n1_14, z1_15⟩ := u
        have hw : v = none ∧ r_bindAll cn f n z = (f1_13, n1_14, z1_15) := hw
        obtain ⟨rfl, hq_16⟩ := hw
        have hP : va_P D vwCl ([(d, .inr (4, [.ref fa, .int fc, .int cc, .ref ma, .ref da, .int pr, .ref ba, .int bc, .int nc, .int lf, .int mi, .ref tr, .ref wk, .ref sd])), (wk, .inr (3, [.ref wkc, .int n1_14, .int z1_15])), (wkc, .inl (cR, 512, .inl f1_13))] ++ po) H := hP
        have hD : va_D _ ([(d, .inr (4, [.ref fa, .int fc, .int cc, .ref ma, .ref da, .int pr, .ref ba, .int bc, .int nc, .int lf, .int mi, .ref tr, .ref wk, .ref sd])), (wk, .inr (3, [.ref wkc, .int n1_14, .int z1_15])), (wkc, .inl (cR, 512, .inl f1_13))] ++ po) := hD
        refine W.eq (g2 := F0 m 59 ls []) rfl ?_
        exact ck_vret ⟨f1_13, n1_14, z1_15⟩ hx hb hr hlocks ⟨rfl, (t_row_of (show t_form ki none f n z = (f, n, z) from rfl) (t_bind_b c_37 c_45 hq_16))⟩ (hP.part [0, 1, 2] rfl) (hK.sub [0] rfl) (hD.part [0, 1, 2] (by decide) rfl) hS (by decide) (by decide) dX5_tellStep_59
