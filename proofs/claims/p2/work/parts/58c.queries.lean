set_option maxHeartbeats 4000000 in
set_option maxRecDepth 100000 in
theorem m_fails (l : Launch) (D : va_G) (sz : Nat) (mo : Nat) (th : Int32) (fr : List Value) (wy : Int32) : cM l yX6_fails (.code yX6_fails cX6_fails 2 (some .int)) 10 270 0 0 [.ref mo, .int wy] D [] [(mo, .inr (5, .int th :: fr))] sz (S := Unit) (fun v _ => v = some (.int 0)) (fun _ => [(mo, .inr (5, .int wy :: fr))]) (fun _ => []) := by
  refine cM_of (by decide) (Nat.le_of_ble_eq_true rfl) ?_
  intro p e s m below meth c ls hF hsz hP hK hD hE hZ hA hl
  obtain ⟨hx, hb, hr, hml, hown, hlocks, hnm, htb, hts⟩ := hF
  have hown : s.vm.findClass RX6 = some m.cls := hown
  have hl : lv_has ls 2 [(0, .ref mo), (1, .int wy)] := hl
  have hS : va_S (va_A [(mo, .inr (5, .int th :: fr))] sz) s.heap s.heap [] := va_S.rf
  refine lv_aload_n hx hb dX6_fails_0 rfl (lv_at hl 0 rfl) ?_
  refine lv_iload_n hx hb dX6_fails_1 rfl (lv_at hl 1 rfl) ?_
  refine va_put (ci := 5) (v := .int wy) (ty := .int) (C := RX6) (T := TX6) (N := 39) hx hb hts inG_X6 tyX6 tyX6_ok nmX6 hown hK hP hD hS 0 rfl rfl 0 (by decide) (hts _ tw_4_23) (fun _ h9 => h9) rfl (by decide +kernel) rfl rfl (Nat.le_of_ble_eq_true rfl) dX6_fails_2 (fun H locs hP hD hS => ?_)
  have hP : va_P D vwCl [(mo, .inr (5, .int wy :: fr))] H := hP
  have hD : va_D _ [(mo, .inr (5, .int wy :: fr))] := hD
  refine lv_iconst (v := 0) hx hb dX6_fails_5 (by decide) ?_
  exact ck_iret () hx hb hr rfl hlocks rfl (hP.sub [0] rfl) (hK.sub [] rfl) (hD.sub [0] (by decide) rfl) hS (by decide) (by decide) dX6_fails_6
set_option maxHeartbeats 4000000 in
set_option maxRecDepth 100000 in
theorem m_isForm (l : Launch) (D : va_G) (sz : Nat) (mo : Nat) (cR : ClassId) (th : Int32) (PM : Nat → Nat) (s0 : St) (r0 : Rt) (hR : rI PM s0) (xx : Int32) : cM l yX6_isForm (.code yX6_isForm cX6_isForm 2 (some .boolean)) 10 270 0 0 [.ref mo, .int xx] D [] [(mo, .inr (5, [.int th, .ref (s0.1 0), .ref (s0.1 1), .ref (s0.1 2), .ref (s0.1 3), .ref (s0.1 4), .ref (s0.1 5), .ref (s0.1 6), .ref (s0.1 7), .ref (s0.1 8), .int (nI (s_n s0)), .ref (s0.1 9), .int (nI (s_dt s0)), .ref (s0.1 10), .int (nI (s_h s0)), .ref (s0.1 11), .int (nI (s_p s0)), .ref (r0.1 0), .ref (r0.1 1), .int (nI (r0.2.2.2 0)), .ref (r0.1 2), .ref (r0.1 3), .ref (r0.1 4), .ref (r0.1 5), .ref (r0.1 6), .ref (r0.1 7), .ref (r0.1 8), .int (nI (r0.2.2.2 1)), .ref (r0.1 9), .ref (r0.1 10), .ref (r0.1 11), .int (nI (r0.2.2.2 2)), .ref (r0.1 12), .int (nI (r0.2.2.2 3)), .int (nI (r0.2.2.2 4)), .int (nI (r0.2.2.2 5)), .int (nI (r0.2.2.2 6)), .ref (r0.1 13), .int (nI (r0.2.2.2 7))]))] sz (S := Unit) (fun v _ => v = some (.int (q_isF xx (r0.2.2.2 7)))) (fun _ => [(mo, .inr (5, [.int th, .ref (s0.1 0), .ref (s0.1 1), .ref (s0.1 2), .ref (s0.1 3), .ref (s0.1 4), .ref (s0.1 5), .ref (s0.1 6), .ref (s0.1 7), .ref (s0.1 8), .int (nI (s_n s0)), .ref (s0.1 9), .int (nI (s_dt s0)), .ref (s0.1 10), .int (nI (s_h s0)), .ref (s0.1 11), .int (nI (s_p s0)), .ref (r0.1 0), .ref (r0.1 1), .int (nI (r0.2.2.2 0)), .ref (r0.1 2), .ref (r0.1 3), .ref (r0.1 4), .ref (r0.1 5), .ref (r0.1 6), .ref (r0.1 7), .ref (r0.1 8), .int (nI (r0.2.2.2 1)), .ref (r0.1 9), .ref (r0.1 10), .ref (r0.1 11), .int (nI (r0.2.2.2 2)), .ref (r0.1 12), .int (nI (r0.2.2.2 3)), .int (nI (r0.2.2.2 4)), .int (nI (r0.2.2.2 5)), .int (nI (r0.2.2.2 6)), .ref (r0.1 13), .int (nI (r0.2.2.2 7))]))]) (fun _ => []) := by
  refine cM_of (by decide) (Nat.le_of_ble_eq_true rfl) ?_
  intro p e s m below meth c ls hF hsz hP hK hD hE hZ hA hl
  obtain ⟨hx, hb, hr, hml, hown, hlocks, hnm, htb, hts⟩ := hF
  have hown : s.vm.findClass RX6 = some m.cls := hown
  have hl : lv_has ls 2 [(0, .ref mo), (1, .int xx)] := hl
  have hS : va_S (va_A [(mo, .inr (5, [.int th, .ref (s0.1 0), .ref (s0.1 1), .ref (s0.1 2), .ref (s0.1 3), .ref (s0.1 4), .ref (s0.1 5), .ref (s0.1 6), .ref (s0.1 7), .ref (s0.1 8), .int (nI (s_n s0)), .ref (s0.1 9), .int (nI (s_dt s0)), .ref (s0.1 10), .int (nI (s_h s0)), .ref (s0.1 11), .int (nI (s_p s0)), .ref (r0.1 0), .ref (r0.1 1), .int (nI (r0.2.2.2 0)), .ref (r0.1 2), .ref (r0.1 3), .ref (r0.1 4), .ref (r0.1 5), .ref (r0.1 6), .ref (r0.1 7), .ref (r0.1 8), .int (nI (r0.2.2.2 1)), .ref (r0.1 9), .ref (r0.1 10), .ref (r0.1 11), .int (nI (r0.2.2.2 2)), .ref (r0.1 12), .int (nI (r0.2.2.2 3)), .int (nI (r0.2.2.2 4)), .int (nI (r0.2.2.2 5)), .int (nI (r0.2.2.2 6)), .ref (r0.1 13), .int (nI (r0.2.2.2 7))]))] sz) s.heap s.heap [] := va_S.rf
  refine lv_iload_n hx hb dX6_isForm_0 rfl (lv_at hl 1 rfl) ?_
  refine lv_if_lt (tgt := 16) hx hb dX6_isForm_1 (by decide) (fun c_1 => ?_) (fun c_1 => ?_)
  · refine lv_iconst (v := 0) hx hb dX6_isForm_16 (by decide) ?_
    exact ck_iret () hx hb hr rfl hlocks (congrArg (fun z9 => some (Value.int z9)) (show (0 : Int32) = q_isF xx (r0.2.2.2 7) from (by unfold q_isF; rw [if_pos c_1]))) (hP.sub [0] rfl) (hK.sub [] rfl) (hD.sub [0] (by decide) rfl) hS (by decide) (by decide) dX6_isForm_17
  · refine lv_iload_n hx hb dX6_isForm_4 rfl (lv_at hl 1 rfl) ?_
    refine lv_aload_n hx hb dX6_isForm_5 rfl (lv_at hl 0 rfl) ?_
    refine va_get (ci := 5) (v := .int (nI (r0.2.2.2 7))) (C := RX6) (T := TX6) (N := 39) hx hb hts inG_X6 hown hK hP 0 rfl rfl 38 (by decide) (hts _ tw_4_61) (fun _ h9 => h9) rfl dX6_isForm_6 ?_
    refine lv_icmp_ge (tgt := 16) hx hb dX6_isForm_9 (by decide) (fun c_9 => ?_) (fun c_9 => ?_)
    · refine lv_iconst (v := 0) hx hb dX6_isForm_16 (by decide) ?_
      exact ck_iret () hx hb hr rfl hlocks (congrArg (fun z9 => some (Value.int z9)) (show (0 : Int32) = q_isF xx (r0.2.2.2 7) from (by unfold q_isF; rw [if_neg c_1, if_pos c_9]))) (hP.sub [0] rfl) (hK.sub [] rfl) (hD.sub [0] (by decide) rfl) hS (by decide) (by decide) dX6_isForm_17
    · refine lv_iconst (v := 1) hx hb dX6_isForm_12 (by decide) ?_
      refine lv_goto (tgt := 17) hx hb dX6_isForm_13 (by decide) ?_
      exact ck_iret () hx hb hr rfl hlocks (congrArg (fun z9 => some (Value.int z9)) (show (1 : Int32) = q_isF xx (r0.2.2.2 7) from (by unfold q_isF; rw [if_neg c_1, if_neg c_9]))) (hP.sub [0] rfl) (hK.sub [] rfl) (hD.sub [0] (by decide) rfl) hS (by decide) (by decide) dX6_isForm_17
set_option maxHeartbeats 4000000 in
set_option maxRecDepth 100000 in
theorem m_term (l : Launch) (D : va_G) (sz : Nat) (mo : Nat) (cR : ClassId) (th : Int32) (PM : Nat → Nat) (s0 : St) (r0 : Rt) (hR : rI PM s0) (hfm : fmsO s0 r0) (xx : Int32) : cM l yX6_term (.code yX6_term cX6_term 2 (some .int)) 12 340 0 0 [.ref mo, .int xx] D [(cR, .int)] [(mo, .inr (5, [.int th, .ref (s0.1 0), .ref (s0.1 1), .ref (s0.1 2), .ref (s0.1 3), .ref (s0.1 4), .ref (s0.1 5), .ref (s0.1 6), .ref (s0.1 7), .ref (s0.1 8), .int (nI (s_n s0)), .ref (s0.1 9), .int (nI (s_dt s0)), .ref (s0.1 10), .int (nI (s_h s0)), .ref (s0.1 11), .int (nI (s_p s0)), .ref (r0.1 0), .ref (r0.1 1), .int (nI (r0.2.2.2 0)), .ref (r0.1 2), .ref (r0.1 3), .ref (r0.1 4), .ref (r0.1 5), .ref (r0.1 6), .ref (r0.1 7), .ref (r0.1 8), .int (nI (r0.2.2.2 1)), .ref (r0.1 9), .ref (r0.1 10), .ref (r0.1 11), .int (nI (r0.2.2.2 2)), .ref (r0.1 12), .int (nI (r0.2.2.2 3)), .int (nI (r0.2.2.2 4)), .int (nI (r0.2.2.2 5)), .int (nI (r0.2.2.2 6)), .ref (r0.1 13), .int (nI (r0.2.2.2 7))])), ((s0.1 0), .inl (cR, (s0.2.1 0), .inl (s0.2.2.1 0))), ((r0.1 13), .inl (cR, 1000, .inl (r0.2.2.1 13)))] sz (S := Nat) (fun v u => v = some (.int (nI u)) ∧ (u = 0 ∨ ((1 ≤ u ∧ u ≤ s_n s0) ∧ s_kd s0 u < 3 ∧ s_sz s0 u ≤ 100))) (fun u => [(mo, .inr (5, [.int th, .ref (s0.1 0), .ref (s0.1 1), .ref (s0.1 2), .ref (s0.1 3), .ref (s0.1 4), .ref (s0.1 5), .ref (s0.1 6), .ref (s0.1 7), .ref (s0.1 8), .int (nI (s_n s0)), .ref (s0.1 9), .int (nI (s_dt s0)), .ref (s0.1 10), .int (nI (s_h s0)), .ref (s0.1 11), .int (nI (s_p s0)), .ref (r0.1 0), .ref (r0.1 1), .int (nI (r0.2.2.2 0)), .ref (r0.1 2), .ref (r0.1 3), .ref (r0.1 4), .ref (r0.1 5), .ref (r0.1 6), .ref (r0.1 7), .ref (r0.1 8), .int (nI (r0.2.2.2 1)), .ref (r0.1 9), .ref (r0.1 10), .ref (r0.1 11), .int (nI (r0.2.2.2 2)), .ref (r0.1 12), .int (nI (r0.2.2.2 3)), .int (nI (r0.2.2.2 4)), .int (nI (r0.2.2.2 5)), .int (nI (r0.2.2.2 6)), .ref (r0.1 13), .int (nI (r0.2.2.2 7))])), ((s0.1 0), .inl (cR, (s0.2.1 0), .inl (s0.2.2.1 0))), ((r0.1 13), .inl (cR, 1000, .inl (r0.2.2.1 13)))]) (fun u => [(cR, .int)]) := by
  refine cM_of (by decide) (Nat.le_of_ble_eq_true rfl) ?_
  intro p e s m below meth c ls hF hsz hP hK hD hE hZ hA hl
  obtain ⟨hx, hb, hr, hml, hown, hlocks, hnm, htb, hts⟩ := hF
  have hown : s.vm.findClass RX6 = some m.cls := hown
  have hl : lv_has ls 2 [(0, .ref mo), (1, .int xx)] := hl
  have hS : va_S (va_A [(mo, .inr (5, [.int th, .ref (s0.1 0), .ref (s0.1 1), .ref (s0.1 2), .ref (s0.1 3), .ref (s0.1 4), .ref (s0.1 5), .ref (s0.1 6), .ref (s0.1 7), .ref (s0.1 8), .int (nI (s_n s0)), .ref (s0.1 9), .int (nI (s_dt s0)), .ref (s0.1 10), .int (nI (s_h s0)), .ref (s0.1 11), .int (nI (s_p s0)), .ref (r0.1 0), .ref (r0.1 1), .int (nI (r0.2.2.2 0)), .ref (r0.1 2), .ref (r0.1 3), .ref (r0.1 4), .ref (r0.1 5), .ref (r0.1 6), .ref (r0.1 7), .ref (r0.1 8), .int (nI (r0.2.2.2 1)), .ref (r0.1 9), .ref (r0.1 10), .ref (r0.1 11), .int (nI (r0.2.2.2 2)), .ref (r0.1 12), .int (nI (r0.2.2.2 3)), .int (nI (r0.2.2.2 4)), .int (nI (r0.2.2.2 5)), .int (nI (r0.2.2.2 6)), .ref (r0.1 13), .int (nI (r0.2.2.2 7))])), ((s0.1 0), .inl (cR, (s0.2.1 0), .inl (s0.2.2.1 0))), ((r0.1 13), .inl (cR, 1000, .inl (r0.2.2.1 13)))] sz) s.heap s.heap [] := va_S.rf
  refine lv_aload_n hx hb dX6_term_0 rfl (lv_at hl 0 rfl) ?_
  refine lv_iload_n hx hb dX6_term_1 rfl (lv_at hl 1 rfl) ?_
  refine ck_run (wr := [((s0.1 0), .inl (cR, (s0.2.1 0), .inl (s0.2.2.1 0))), ((r0.1 13), .inl (cR, 1000, .inl (r0.2.2.1 13)))]) (va_runV (C := RX6) (As := [.int xx]) (rest := []) ⟨hx, hb, hml, hown, hts⟩ (m_isForm l D s.heap.size mo cR th PM s0 r0 hR xx) (cw_V (n := 1) hts tw_4_162 tw_4_164 tw_s44 tw_1_9 tw_4_165 (by decide +kernel) ⟨by decide, by decide⟩) ⟨pre.blind, va_recv (q := (RX6, TX6, 39)) hK hP (ci := 5) (q0 := 0) rfl rfl, fun U hU hW => ⟨rfl, pre.of (wc := [(mo, .inr (5, [.int th, .ref (s0.1 0), .ref (s0.1 1), .ref (s0.1 2), .ref (s0.1 3), .ref (s0.1 4), .ref (s0.1 5), .ref (s0.1 6), .ref (s0.1 7), .ref (s0.1 8), .int (nI (s_n s0)), .ref (s0.1 9), .int (nI (s_dt s0)), .ref (s0.1 10), .int (nI (s_h s0)), .ref (s0.1 11), .int (nI (s_p s0)), .ref (r0.1 0), .ref (r0.1 1), .int (nI (r0.2.2.2 0)), .ref (r0.1 2), .ref (r0.1 3), .ref (r0.1 4), .ref (r0.1 5), .ref (r0.1 6), .ref (r0.1 7), .ref (r0.1 8), .int (nI (r0.2.2.2 1)), .ref (r0.1 9), .ref (r0.1 10), .ref (r0.1 11), .int (nI (r0.2.2.2 2)), .ref (r0.1 12), .int (nI (r0.2.2.2 3)), .int (nI (r0.2.2.2 4)), .int (nI (r0.2.2.2 5)), .int (nI (r0.2.2.2 6)), .ref (r0.1 13), .int (nI (r0.2.2.2 7))]))]) (tysc := []) (tk := []) hP hD hK hS hA hE hZ [0] (by decide) rfl rfl rfl U hU hW⟩⟩ rfl rfl hl.1 rfl (lv_room (Nat.le_of_ble_eq_true rfl)) dX6_term_2 ⟨by decide, by decide⟩) hP hD hK hS hA [0] [1, 2] rfl rfl (by decide) (by decide) (fun v u H locs hw hP hD hK9 hS => ?_)
  have hw : v = some (.int (q_isF xx (r0.2.2.2 7))) := hw
  subst hw
  have hP : va_P D vwCl [((s0.1 0), .inl (cR, (s0.2.1 0), .inl (s0.2.2.1 0))), ((r0.1 13), .inl (cR, 1000, .inl (r0.2.2.1 13))), (mo, .inr (5, [.int th, .ref (s0.1 0), .ref (s0.1 1), .ref (s0.1 2), .ref (s0.1 3), .ref (s0.1 4), .ref (s0.1 5), .ref (s0.1 6), .ref (s0.1 7), .ref (s0.1 8), .int (nI (s_n s0)), .ref (s0.1 9), .int (nI (s_dt s0)), .ref (s0.1 10), .int (nI (s_h s0)), .ref (s0.1 11), .int (nI (s_p s0)), .ref (r0.1 0), .ref (r0.1 1), .int (nI (r0.2.2.2 0)), .ref (r0.1 2), .ref (r0.1 3), .ref (r0.1 4), .ref (r0.1 5), .ref (r0.1 6), .ref (r0.1 7), .ref (r0.1 8), .int (nI (r0.2.2.2 1)), .ref (r0.1 9), .ref (r0.1 10), .ref (r0.1 11), .int (nI (r0.2.2.2 2)), .ref (r0.1 12), .int (nI (r0.2.2.2 3)), .int (nI (r0.2.2.2 4)), .int (nI (r0.2.2.2 5)), .int (nI (r0.2.2.2 6)), .ref (r0.1 13), .int (nI (r0.2.2.2 7))]))] H := hP
  have hD : va_D _ [((s0.1 0), .inl (cR, (s0.2.1 0), .inl (s0.2.2.1 0))), ((r0.1 13), .inl (cR, 1000, .inl (r0.2.2.1 13))), (mo, .inr (5, [.int th, .ref (s0.1 0), .ref (s0.1 1), .ref (s0.1 2), .ref (s0.1 3), .ref (s0.1 4), .ref (s0.1 5), .ref (s0.1 6), .ref (s0.1 7), .ref (s0.1 8), .int (nI (s_n s0)), .ref (s0.1 9), .int (nI (s_dt s0)), .ref (s0.1 10), .int (nI (s_h s0)), .ref (s0.1 11), .int (nI (s_p s0)), .ref (r0.1 0), .ref (r0.1 1), .int (nI (r0.2.2.2 0)), .ref (r0.1 2), .ref (r0.1 3), .ref (r0.1 4), .ref (r0.1 5), .ref (r0.1 6), .ref (r0.1 7), .ref (r0.1 8), .int (nI (r0.2.2.2 1)), .ref (r0.1 9), .ref (r0.1 10), .ref (r0.1 11), .int (nI (r0.2.2.2 2)), .ref (r0.1 12), .int (nI (r0.2.2.2 3)), .int (nI (r0.2.2.2 4)), .int (nI (r0.2.2.2 5)), .int (nI (r0.2.2.2 6)), .ref (r0.1 13), .int (nI (r0.2.2.2 7))]))] := hD
  refine W.eq (g2 := F0 m 5 ls [.int (q_isF xx (r0.2.2.2 7))]) rfl ?_
  refine lv_if_eq (tgt := 32) hx hb dX6_term_5 (by decide) (fun c_5 => ?_) (fun c_5 => ?_)
  · refine lv_iconst (v := 0) hx hb dX6_term_32 (by decide) ?_
    refine ck_top (y := (nI 0)) rfl ?_
    exact ck_iret 0 hx hb hr rfl hlocks ⟨rfl, (Or.inl rfl)⟩ (hP.sub [2, 0, 1] rfl) (hK.sub [0] rfl) (hD.sub [2, 0, 1] (by decide) rfl) hS (by decide) (by decide) dX6_term_33
  · obtain ⟨i9, hi9, ei9⟩ := isF_in hfm.1 c_5
    obtain ⟨hf1, hf2, hf3⟩ := hfm.2 i9 hi9
    have hfg := hfm.1
    subst ei9
    have hl : lv_has ls 2 [(0, .ref mo), (1, .int (nI i9))] := hl
    refine lv_aload_n hx hb dX6_term_8 rfl (lv_at hl 0 rfl) ?_
    refine va_get (ci := 5) (v := .ref (s0.1 0)) (C := RX6) (T := TX6) (N := 39) hx hb hts inG_X6 hown hK hP 2 rfl rfl 1 (by decide) (hts _ tw_4_24) (fun _ h9 => h9) rfl dX6_term_9 ?_
    refine lv_aload_n hx hb dX6_term_12 rfl (lv_at hl 0 rfl) ?_
    refine va_get (ci := 5) (v := .ref (r0.1 13)) (C := RX6) (T := TX6) (N := 39) hx hb hts inG_X6 hown hK hP 2 rfl rfl 37 (by decide) (hts _ tw_4_60) (fun _ h9 => h9) rfl dX6_term_13 ?_
    refine lv_iload_n hx hb dX6_term_16 rfl (lv_at hl 1 rfl) ?_
    refine va_iald hx hb hK hP 1 0 rfl rfl (vp_in_nI (show i9 < 1000 by omega) (by decide)) dX6_term_17 ?_
    refine ck_top (y := (nI (fv r0 i9))) (by rw [nI_clamp (show i9 < 2 ^ 31 by omega)]; exact hf1) ?_
    refine va_iald hx hb hK hP 0 0 rfl rfl (rI_in hR (by decide) hf2.2) dX6_term_18 ?_
    refine ck_top (y := s_kd s0 (fv r0 i9)) (by rw [cl1 hR hf2.2]; rfl) ?_
    refine lv_iconst (v := 2) hx hb dX6_term_19 (by decide) ?_
    refine lv_icmp_ge (tgt := 32) hx hb dX6_term_20 (by decide) (fun c_20 => ?_) (fun c_20 => ?_)
    · refine lv_iconst (v := 0) hx hb dX6_term_32 (by decide) ?_
      refine ck_top (y := (nI 0)) rfl ?_
      exact ck_iret 0 hx hb hr rfl hlocks ⟨rfl, (Or.inl rfl)⟩ (hP.sub [2, 0, 1] rfl) (hK.sub [0] rfl) (hD.sub [2, 0, 1] (by decide) rfl) hS (by decide) (by decide) dX6_term_33
    · refine lv_aload_n hx hb dX6_term_23 rfl (lv_at hl 0 rfl) ?_
      refine va_get (ci := 5) (v := .ref (r0.1 13)) (C := RX6) (T := TX6) (N := 39) hx hb hts inG_X6 hown hK hP 2 rfl rfl 37 (by decide) (hts _ tw_4_60) (fun _ h9 => h9) rfl dX6_term_24 ?_
      refine lv_iload_n hx hb dX6_term_27 rfl (lv_at hl 1 rfl) ?_
      refine va_iald hx hb hK hP 1 0 rfl rfl (vp_in_nI (show i9 < 1000 by omega) (by decide)) dX6_term_28 ?_
      refine ck_top (y := (nI (fv r0 i9))) (by rw [nI_clamp (show i9 < 2 ^ 31 by omega)]; exact hf1) ?_
      refine lv_goto (tgt := 33) hx hb dX6_term_29 (by decide) ?_
      exact ck_iret (fv r0 i9) hx hb hr rfl hlocks ⟨rfl, (Or.inr ⟨hf2, lt2 c_20, hf3⟩)⟩ (hP.sub [2, 0, 1] rfl) (hK.sub [0] rfl) (hD.sub [2, 0, 1] (by decide) rfl) hS (by decide) (by decide) dX6_term_33
set_option maxHeartbeats 4000000 in
set_option maxRecDepth 100000 in
theorem m_formula (l : Launch) (D : va_G) (sz : Nat) (mo : Nat) (cR : ClassId) (th : Int32) (PM : Nat → Nat) (s0 : St) (r0 : Rt) (hR : rI PM s0) (hfm : fmsO s0 r0) (xx : Int32) : cM l yX6_formula (.code yX6_formula cX6_formula 2 (some .int)) 12 340 0 0 [.ref mo, .int xx] D [(cR, .int)] [(mo, .inr (5, [.int th, .ref (s0.1 0), .ref (s0.1 1), .ref (s0.1 2), .ref (s0.1 3), .ref (s0.1 4), .ref (s0.1 5), .ref (s0.1 6), .ref (s0.1 7), .ref (s0.1 8), .int (nI (s_n s0)), .ref (s0.1 9), .int (nI (s_dt s0)), .ref (s0.1 10), .int (nI (s_h s0)), .ref (s0.1 11), .int (nI (s_p s0)), .ref (r0.1 0), .ref (r0.1 1), .int (nI (r0.2.2.2 0)), .ref (r0.1 2), .ref (r0.1 3), .ref (r0.1 4), .ref (r0.1 5), .ref (r0.1 6), .ref (r0.1 7), .ref (r0.1 8), .int (nI (r0.2.2.2 1)), .ref (r0.1 9), .ref (r0.1 10), .ref (r0.1 11), .int (nI (r0.2.2.2 2)), .ref (r0.1 12), .int (nI (r0.2.2.2 3)), .int (nI (r0.2.2.2 4)), .int (nI (r0.2.2.2 5)), .int (nI (r0.2.2.2 6)), .ref (r0.1 13), .int (nI (r0.2.2.2 7))])), ((s0.1 0), .inl (cR, (s0.2.1 0), .inl (s0.2.2.1 0))), ((s0.1 5), .inl (cR, (s0.2.1 5), .inl (s0.2.2.1 5))), ((r0.1 13), .inl (cR, 1000, .inl (r0.2.2.1 13)))] sz (S := Nat) (fun v u => v = some (.int (nI u)) ∧ (u = 0 ∨ (isF s0 u ∧ s_sz s0 u ≤ 100))) (fun u => [(mo, .inr (5, [.int th, .ref (s0.1 0), .ref (s0.1 1), .ref (s0.1 2), .ref (s0.1 3), .ref (s0.1 4), .ref (s0.1 5), .ref (s0.1 6), .ref (s0.1 7), .ref (s0.1 8), .int (nI (s_n s0)), .ref (s0.1 9), .int (nI (s_dt s0)), .ref (s0.1 10), .int (nI (s_h s0)), .ref (s0.1 11), .int (nI (s_p s0)), .ref (r0.1 0), .ref (r0.1 1), .int (nI (r0.2.2.2 0)), .ref (r0.1 2), .ref (r0.1 3), .ref (r0.1 4), .ref (r0.1 5), .ref (r0.1 6), .ref (r0.1 7), .ref (r0.1 8), .int (nI (r0.2.2.2 1)), .ref (r0.1 9), .ref (r0.1 10), .ref (r0.1 11), .int (nI (r0.2.2.2 2)), .ref (r0.1 12), .int (nI (r0.2.2.2 3)), .int (nI (r0.2.2.2 4)), .int (nI (r0.2.2.2 5)), .int (nI (r0.2.2.2 6)), .ref (r0.1 13), .int (nI (r0.2.2.2 7))])), ((s0.1 0), .inl (cR, (s0.2.1 0), .inl (s0.2.2.1 0))), ((s0.1 5), .inl (cR, (s0.2.1 5), .inl (s0.2.2.1 5))), ((r0.1 13), .inl (cR, 1000, .inl (r0.2.2.1 13)))]) (fun u => [(cR, .int)]) := by
  refine cM_of (by decide) (Nat.le_of_ble_eq_true rfl) ?_
  intro p e s m below meth c ls hF hsz hP hK hD hE hZ hA hl
  obtain ⟨hx, hb, hr, hml, hown, hlocks, hnm, htb, hts⟩ := hF
  have hown : s.vm.findClass RX6 = some m.cls := hown
  have hl : lv_has ls 2 [(0, .ref mo), (1, .int xx)] := hl
  have hS : va_S (va_A [(mo, .inr (5, [.int th, .ref (s0.1 0), .ref (s0.1 1), .ref (s0.1 2), .ref (s0.1 3), .ref (s0.1 4), .ref (s0.1 5), .ref (s0.1 6), .ref (s0.1 7), .ref (s0.1 8), .int (nI (s_n s0)), .ref (s0.1 9), .int (nI (s_dt s0)), .ref (s0.1 10), .int (nI (s_h s0)), .ref (s0.1 11), .int (nI (s_p s0)), .ref (r0.1 0), .ref (r0.1 1), .int (nI (r0.2.2.2 0)), .ref (r0.1 2), .ref (r0.1 3), .ref (r0.1 4), .ref (r0.1 5), .ref (r0.1 6), .ref (r0.1 7), .ref (r0.1 8), .int (nI (r0.2.2.2 1)), .ref (r0.1 9), .ref (r0.1 10), .ref (r0.1 11), .int (nI (r0.2.2.2 2)), .ref (r0.1 12), .int (nI (r0.2.2.2 3)), .int (nI (r0.2.2.2 4)), .int (nI (r0.2.2.2 5)), .int (nI (r0.2.2.2 6)), .ref (r0.1 13), .int (nI (r0.2.2.2 7))])), ((s0.1 0), .inl (cR, (s0.2.1 0), .inl (s0.2.2.1 0))), ((s0.1 5), .inl (cR, (s0.2.1 5), .inl (s0.2.2.1 5))), ((r0.1 13), .inl (cR, 1000, .inl (r0.2.2.1 13)))] sz) s.heap s.heap [] := va_S.rf
  refine lv_aload_n hx hb dX6_formula_0 rfl (lv_at hl 0 rfl) ?_
  refine lv_iload_n hx hb dX6_formula_1 rfl (lv_at hl 1 rfl) ?_
  refine ck_run (wr := [((s0.1 0), .inl (cR, (s0.2.1 0), .inl (s0.2.2.1 0))), ((s0.1 5), .inl (cR, (s0.2.1 5), .inl (s0.2.2.1 5))), ((r0.1 13), .inl (cR, 1000, .inl (r0.2.2.1 13)))]) (va_runV (C := RX6) (As := [.int xx]) (rest := []) ⟨hx, hb, hml, hown, hts⟩ (m_isForm l D s.heap.size mo cR th PM s0 r0 hR xx) (cw_V (n := 1) hts tw_4_162 tw_4_164 tw_s44 tw_1_9 tw_4_165 (by decide +kernel) ⟨by decide, by decide⟩) ⟨pre.blind, va_recv (q := (RX6, TX6, 39)) hK hP (ci := 5) (q0 := 0) rfl rfl, fun U hU hW => ⟨rfl, pre.of (wc := [(mo, .inr (5, [.int th, .ref (s0.1 0), .ref (s0.1 1), .ref (s0.1 2), .ref (s0.1 3), .ref (s0.1 4), .ref (s0.1 5), .ref (s0.1 6), .ref (s0.1 7), .ref (s0.1 8), .int (nI (s_n s0)), .ref (s0.1 9), .int (nI (s_dt s0)), .ref (s0.1 10), .int (nI (s_h s0)), .ref (s0.1 11), .int (nI (s_p s0)), .ref (r0.1 0), .ref (r0.1 1), .int (nI (r0.2.2.2 0)), .ref (r0.1 2), .ref (r0.1 3), .ref (r0.1 4), .ref (r0.1 5), .ref (r0.1 6), .ref (r0.1 7), .ref (r0.1 8), .int (nI (r0.2.2.2 1)), .ref (r0.1 9), .ref (r0.1 10), .ref (r0.1 11), .int (nI (r0.2.2.2 2)), .ref (r0.1 12), .int (nI (r0.2.2.2 3)), .int (nI (r0.2.2.2 4)), .int (nI (r0.2.2.2 5)), .int (nI (r0.2.2.2 6)), .ref (r0.1 13), .int (nI (r0.2.2.2 7))]))]) (tysc := []) (tk := []) hP hD hK hS hA hE hZ [0] (by decide) rfl rfl rfl U hU hW⟩⟩ rfl rfl hl.1 rfl (lv_room (Nat.le_of_ble_eq_true rfl)) dX6_formula_2 ⟨by decide, by decide⟩) hP hD hK hS hA [0] [1, 2, 3] rfl rfl (by decide) (by decide) (fun v u H locs hw hP hD hK9 hS => ?_)
  have hw : v = some (.int (q_isF xx (r0.2.2.2 7))) := hw
  subst hw
  have hP : va_P D vwCl [((s0.1 0), .inl (cR, (s0.2.1 0), .inl (s0.2.2.1 0))), ((s0.1 5), .inl (cR, (s0.2.1 5), .inl (s0.2.2.1 5))), ((r0.1 13), .inl (cR, 1000, .inl (r0.2.2.1 13))), (mo, .inr (5, [.int th, .ref (s0.1 0), .ref (s0.1 1), .ref (s0.1 2), .ref (s0.1 3), .ref (s0.1 4), .ref (s0.1 5), .ref (s0.1 6), .ref (s0.1 7), .ref (s0.1 8), .int (nI (s_n s0)), .ref (s0.1 9), .int (nI (s_dt s0)), .ref (s0.1 10), .int (nI (s_h s0)), .ref (s0.1 11), .int (nI (s_p s0)), .ref (r0.1 0), .ref (r0.1 1), .int (nI (r0.2.2.2 0)), .ref (r0.1 2), .ref (r0.1 3), .ref (r0.1 4), .ref (r0.1 5), .ref (r0.1 6), .ref (r0.1 7), .ref (r0.1 8), .int (nI (r0.2.2.2 1)), .ref (r0.1 9), .ref (r0.1 10), .ref (r0.1 11), .int (nI (r0.2.2.2 2)), .ref (r0.1 12), .int (nI (r0.2.2.2 3)), .int (nI (r0.2.2.2 4)), .int (nI (r0.2.2.2 5)), .int (nI (r0.2.2.2 6)), .ref (r0.1 13), .int (nI (r0.2.2.2 7))]))] H := hP
  have hD : va_D _ [((s0.1 0), .inl (cR, (s0.2.1 0), .inl (s0.2.2.1 0))), ((s0.1 5), .inl (cR, (s0.2.1 5), .inl (s0.2.2.1 5))), ((r0.1 13), .inl (cR, 1000, .inl (r0.2.2.1 13))), (mo, .inr (5, [.int th, .ref (s0.1 0), .ref (s0.1 1), .ref (s0.1 2), .ref (s0.1 3), .ref (s0.1 4), .ref (s0.1 5), .ref (s0.1 6), .ref (s0.1 7), .ref (s0.1 8), .int (nI (s_n s0)), .ref (s0.1 9), .int (nI (s_dt s0)), .ref (s0.1 10), .int (nI (s_h s0)), .ref (s0.1 11), .int (nI (s_p s0)), .ref (r0.1 0), .ref (r0.1 1), .int (nI (r0.2.2.2 0)), .ref (r0.1 2), .ref (r0.1 3), .ref (r0.1 4), .ref (r0.1 5), .ref (r0.1 6), .ref (r0.1 7), .ref (r0.1 8), .int (nI (r0.2.2.2 1)), .ref (r0.1 9), .ref (r0.1 10), .ref (r0.1 11), .int (nI (r0.2.2.2 2)), .ref (r0.1 12), .int (nI (r0.2.2.2 3)), .int (nI (r0.2.2.2 4)), .int (nI (r0.2.2.2 5)), .int (nI (r0.2.2.2 6)), .ref (r0.1 13), .int (nI (r0.2.2.2 7))]))] := hD
  refine W.eq (g2 := F0 m 5 ls [.int (q_isF xx (r0.2.2.2 7))]) rfl ?_
  refine lv_if_eq (tgt := 46) hx hb dX6_formula_5 (by decide) (fun c_5 => ?_) (fun c_5 => ?_)
  · refine lv_iconst (v := 0) hx hb dX6_formula_46 (by decide) ?_
    refine ck_top (y := (nI 0)) rfl ?_
    exact ck_iret 0 hx hb hr rfl hlocks ⟨rfl, (Or.inl rfl)⟩ (hP.sub [3, 0, 1, 2] rfl) (hK.sub [0] rfl) (hD.sub [3, 0, 1, 2] (by decide) rfl) hS (by decide) (by decide) dX6_formula_47
  · obtain ⟨i9, hi9, ei9⟩ := isF_in hfm.1 c_5
    obtain ⟨hf1, hf2, hf3⟩ := hfm.2 i9 hi9
    have hfg := hfm.1
    subst ei9
    have hl : lv_has ls 2 [(0, .ref mo), (1, .int (nI i9))] := hl
    refine lv_aload_n hx hb dX6_formula_8 rfl (lv_at hl 0 rfl) ?_
    refine va_get (ci := 5) (v := .ref (s0.1 0)) (C := RX6) (T := TX6) (N := 39) hx hb hts inG_X6 hown hK hP 3 rfl rfl 1 (by decide) (hts _ tw_4_24) (fun _ h9 => h9) rfl dX6_formula_9 ?_
    refine lv_aload_n hx hb dX6_formula_12 rfl (lv_at hl 0 rfl) ?_
    refine va_get (ci := 5) (v := .ref (r0.1 13)) (C := RX6) (T := TX6) (N := 39) hx hb hts inG_X6 hown hK hP 3 rfl rfl 37 (by decide) (hts _ tw_4_60) (fun _ h9 => h9) rfl dX6_formula_13 ?_
    refine lv_iload_n hx hb dX6_formula_16 rfl (lv_at hl 1 rfl) ?_
    refine va_iald hx hb hK hP 2 0 rfl rfl (vp_in_nI (show i9 < 1000 by omega) (by decide)) dX6_formula_17 ?_
    refine ck_top (y := (nI (fv r0 i9))) (by rw [nI_clamp (show i9 < 2 ^ 31 by omega)]; exact hf1) ?_
    refine va_iald hx hb hK hP 0 0 rfl rfl (rI_in hR (by decide) hf2.2) dX6_formula_18 ?_
    refine ck_top (y := s_kd s0 (fv r0 i9)) (by rw [cl1 hR hf2.2]; rfl) ?_
    refine lv_iconst (v := 2) hx hb dX6_formula_19 (by decide) ?_
    refine lv_icmp_le (tgt := 46) hx hb dX6_formula_20 (by decide) (fun c_20 => ?_) (fun c_20 => ?_)
    · refine lv_iconst (v := 0) hx hb dX6_formula_46 (by decide) ?_
      refine ck_top (y := (nI 0)) rfl ?_
      exact ck_iret 0 hx hb hr rfl hlocks ⟨rfl, (Or.inl rfl)⟩ (hP.sub [3, 0, 1, 2] rfl) (hK.sub [0] rfl) (hD.sub [3, 0, 1, 2] (by decide) rfl) hS (by decide) (by decide) dX6_formula_47
    · refine lv_aload_n hx hb dX6_formula_23 rfl (lv_at hl 0 rfl) ?_
      refine va_get (ci := 5) (v := .ref (s0.1 5)) (C := RX6) (T := TX6) (N := 39) hx hb hts inG_X6 hown hK hP 3 rfl rfl 6 (by decide) (hts _ tw_4_29) (fun _ h9 => h9) rfl dX6_formula_24 ?_
      refine lv_aload_n hx hb dX6_formula_27 rfl (lv_at hl 0 rfl) ?_
      refine va_get (ci := 5) (v := .ref (r0.1 13)) (C := RX6) (T := TX6) (N := 39) hx hb hts inG_X6 hown hK hP 3 rfl rfl 37 (by decide) (hts _ tw_4_60) (fun _ h9 => h9) rfl dX6_formula_28 ?_
      refine lv_iload_n hx hb dX6_formula_31 rfl (lv_at hl 1 rfl) ?_
      refine va_iald hx hb hK hP 2 0 rfl rfl (vp_in_nI (show i9 < 1000 by omega) (by decide)) dX6_formula_32 ?_
      refine ck_top (y := (nI (fv r0 i9))) (by rw [nI_clamp (show i9 < 2 ^ 31 by omega)]; exact hf1) ?_
      refine va_iald hx hb hK hP 1 0 rfl rfl (rI_in hR (by decide) hf2.2) dX6_formula_33 ?_
      refine lv_topi (fun z_1 ez_1 => ?_)
      refine lv_if_ne (tgt := 46) hx hb dX6_formula_34 (by decide) (fun c_34 => ?_) (fun c_34 => ?_)
      · refine lv_iconst (v := 0) hx hb dX6_formula_46 (by decide) ?_
        refine ck_top (y := (nI 0)) rfl ?_
        exact ck_iret 0 hx hb hr rfl hlocks ⟨rfl, (Or.inl rfl)⟩ (hP.sub [3, 0, 1, 2] rfl) (hK.sub [0] rfl) (hD.sub [3, 0, 1, 2] (by decide) rfl) hS (by decide) (by decide) dX6_formula_47
      · refine lv_aload_n hx hb dX6_formula_37 rfl (lv_at hl 0 rfl) ?_
        refine va_get (ci := 5) (v := .ref (r0.1 13)) (C := RX6) (T := TX6) (N := 39) hx hb hts inG_X6 hown hK hP 3 rfl rfl 37 (by decide) (hts _ tw_4_60) (fun _ h9 => h9) rfl dX6_formula_38 ?_
        refine lv_iload_n hx hb dX6_formula_41 rfl (lv_at hl 1 rfl) ?_
        refine va_iald hx hb hK hP 2 0 rfl rfl (vp_in_nI (show i9 < 1000 by omega) (by decide)) dX6_formula_42 ?_
        refine ck_top (y := (nI (fv r0 i9))) (by rw [nI_clamp (show i9 < 2 ^ 31 by omega)]; exact hf1) ?_
        refine lv_goto (tgt := 47) hx hb dX6_formula_43 (by decide) ?_
        exact ck_iret (fv r0 i9) hx hb hr rfl hlocks ⟨rfl, (Or.inr ⟨⟨hf2, gt2 c_20⟩, hf3⟩)⟩ (hP.sub [3, 0, 1, 2] rfl) (hK.sub [0] rfl) (hD.sub [3, 0, 1, 2] (by decide) rfl) hS (by decide) (by decide) dX6_formula_47
set_option maxHeartbeats 4000000 in
set_option maxRecDepth 100000 in
theorem m_constOf (l : Launch) (D : va_G) (sz : Nat) (mo : Nat) (cR : ClassId) (th : Int32) (PM : Nat → Nat) (s0 : St) (r0 : Rt) (hR : rI PM s0) (hfm : fmsO s0 r0) (xx : Int32) : cM l yX6_constantOf (.code yX6_constantOf cX6_constantOf 2 (some .int)) 12 340 0 0 [.ref mo, .int xx] D [(cR, .int)] [(mo, .inr (5, [.int th, .ref (s0.1 0), .ref (s0.1 1), .ref (s0.1 2), .ref (s0.1 3), .ref (s0.1 4), .ref (s0.1 5), .ref (s0.1 6), .ref (s0.1 7), .ref (s0.1 8), .int (nI (s_n s0)), .ref (s0.1 9), .int (nI (s_dt s0)), .ref (s0.1 10), .int (nI (s_h s0)), .ref (s0.1 11), .int (nI (s_p s0)), .ref (r0.1 0), .ref (r0.1 1), .int (nI (r0.2.2.2 0)), .ref (r0.1 2), .ref (r0.1 3), .ref (r0.1 4), .ref (r0.1 5), .ref (r0.1 6), .ref (r0.1 7), .ref (r0.1 8), .int (nI (r0.2.2.2 1)), .ref (r0.1 9), .ref (r0.1 10), .ref (r0.1 11), .int (nI (r0.2.2.2 2)), .ref (r0.1 12), .int (nI (r0.2.2.2 3)), .int (nI (r0.2.2.2 4)), .int (nI (r0.2.2.2 5)), .int (nI (r0.2.2.2 6)), .ref (r0.1 13), .int (nI (r0.2.2.2 7))])), ((s0.1 0), .inl (cR, (s0.2.1 0), .inl (s0.2.2.1 0))), ((r0.1 13), .inl (cR, 1000, .inl (r0.2.2.1 13)))] sz (S := Nat) (fun v u => v = some (.int (nI u)) ∧ (u = 0 ∨ ((1 ≤ u ∧ u ≤ s_n s0) ∧ s_kd s0 u = 0))) (fun u => [(mo, .inr (5, [.int th, .ref (s0.1 0), .ref (s0.1 1), .ref (s0.1 2), .ref (s0.1 3), .ref (s0.1 4), .ref (s0.1 5), .ref (s0.1 6), .ref (s0.1 7), .ref (s0.1 8), .int (nI (s_n s0)), .ref (s0.1 9), .int (nI (s_dt s0)), .ref (s0.1 10), .int (nI (s_h s0)), .ref (s0.1 11), .int (nI (s_p s0)), .ref (r0.1 0), .ref (r0.1 1), .int (nI (r0.2.2.2 0)), .ref (r0.1 2), .ref (r0.1 3), .ref (r0.1 4), .ref (r0.1 5), .ref (r0.1 6), .ref (r0.1 7), .ref (r0.1 8), .int (nI (r0.2.2.2 1)), .ref (r0.1 9), .ref (r0.1 10), .ref (r0.1 11), .int (nI (r0.2.2.2 2)), .ref (r0.1 12), .int (nI (r0.2.2.2 3)), .int (nI (r0.2.2.2 4)), .int (nI (r0.2.2.2 5)), .int (nI (r0.2.2.2 6)), .ref (r0.1 13), .int (nI (r0.2.2.2 7))])), ((s0.1 0), .inl (cR, (s0.2.1 0), .inl (s0.2.2.1 0))), ((r0.1 13), .inl (cR, 1000, .inl (r0.2.2.1 13)))]) (fun u => [(cR, .int)]) := by
  refine cM_of (by decide) (Nat.le_of_ble_eq_true rfl) ?_
  intro p e s m below meth c ls hF hsz hP hK hD hE hZ hA hl
  obtain ⟨hx, hb, hr, hml, hown, hlocks, hnm, htb, hts⟩ := hF
  have hown : s.vm.findClass RX6 = some m.cls := hown
  have hl : lv_has ls 2 [(0, .ref mo), (1, .int xx)] := hl
  have hS : va_S (va_A [(mo, .inr (5, [.int th, .ref (s0.1 0), .ref (s0.1 1), .ref (s0.1 2), .ref (s0.1 3), .ref (s0.1 4), .ref (s0.1 5), .ref (s0.1 6), .ref (s0.1 7), .ref (s0.1 8), .int (nI (s_n s0)), .ref (s0.1 9), .int (nI (s_dt s0)), .ref (s0.1 10), .int (nI (s_h s0)), .ref (s0.1 11), .int (nI (s_p s0)), .ref (r0.1 0), .ref (r0.1 1), .int (nI (r0.2.2.2 0)), .ref (r0.1 2), .ref (r0.1 3), .ref (r0.1 4), .ref (r0.1 5), .ref (r0.1 6), .ref (r0.1 7), .ref (r0.1 8), .int (nI (r0.2.2.2 1)), .ref (r0.1 9), .ref (r0.1 10), .ref (r0.1 11), .int (nI (r0.2.2.2 2)), .ref (r0.1 12), .int (nI (r0.2.2.2 3)), .int (nI (r0.2.2.2 4)), .int (nI (r0.2.2.2 5)), .int (nI (r0.2.2.2 6)), .ref (r0.1 13), .int (nI (r0.2.2.2 7))])), ((s0.1 0), .inl (cR, (s0.2.1 0), .inl (s0.2.2.1 0))), ((r0.1 13), .inl (cR, 1000, .inl (r0.2.2.1 13)))] sz) s.heap s.heap [] := va_S.rf
  refine lv_aload_n hx hb dX6_constantOf_0 rfl (lv_at hl 0 rfl) ?_
  refine lv_iload_n hx hb dX6_constantOf_1 rfl (lv_at hl 1 rfl) ?_
  refine ck_run (wr := [((s0.1 0), .inl (cR, (s0.2.1 0), .inl (s0.2.2.1 0))), ((r0.1 13), .inl (cR, 1000, .inl (r0.2.2.1 13)))]) (va_runV (C := RX6) (As := [.int xx]) (rest := []) ⟨hx, hb, hml, hown, hts⟩ (m_isForm l D s.heap.size mo cR th PM s0 r0 hR xx) (cw_V (n := 1) hts tw_4_162 tw_4_164 tw_s44 tw_1_9 tw_4_165 (by decide +kernel) ⟨by decide, by decide⟩) ⟨pre.blind, va_recv (q := (RX6, TX6, 39)) hK hP (ci := 5) (q0 := 0) rfl rfl, fun U hU hW => ⟨rfl, pre.of (wc := [(mo, .inr (5, [.int th, .ref (s0.1 0), .ref (s0.1 1), .ref (s0.1 2), .ref (s0.1 3), .ref (s0.1 4), .ref (s0.1 5), .ref (s0.1 6), .ref (s0.1 7), .ref (s0.1 8), .int (nI (s_n s0)), .ref (s0.1 9), .int (nI (s_dt s0)), .ref (s0.1 10), .int (nI (s_h s0)), .ref (s0.1 11), .int (nI (s_p s0)), .ref (r0.1 0), .ref (r0.1 1), .int (nI (r0.2.2.2 0)), .ref (r0.1 2), .ref (r0.1 3), .ref (r0.1 4), .ref (r0.1 5), .ref (r0.1 6), .ref (r0.1 7), .ref (r0.1 8), .int (nI (r0.2.2.2 1)), .ref (r0.1 9), .ref (r0.1 10), .ref (r0.1 11), .int (nI (r0.2.2.2 2)), .ref (r0.1 12), .int (nI (r0.2.2.2 3)), .int (nI (r0.2.2.2 4)), .int (nI (r0.2.2.2 5)), .int (nI (r0.2.2.2 6)), .ref (r0.1 13), .int (nI (r0.2.2.2 7))]))]) (tysc := []) (tk := []) hP hD hK hS hA hE hZ [0] (by decide) rfl rfl rfl U hU hW⟩⟩ rfl rfl hl.1 rfl (lv_room (Nat.le_of_ble_eq_true rfl)) dX6_constantOf_2 ⟨by decide, by decide⟩) hP hD hK hS hA [0] [1, 2] rfl rfl (by decide) (by decide) (fun v u H locs hw hP hD hK9 hS => ?_)
  have hw : v = some (.int (q_isF xx (r0.2.2.2 7))) := hw
  subst hw
  have hP : va_P D vwCl [((s0.1 0), .inl (cR, (s0.2.1 0), .inl (s0.2.2.1 0))), ((r0.1 13), .inl (cR, 1000, .inl (r0.2.2.1 13))), (mo, .inr (5, [.int th, .ref (s0.1 0), .ref (s0.1 1), .ref (s0.1 2), .ref (s0.1 3), .ref (s0.1 4), .ref (s0.1 5), .ref (s0.1 6), .ref (s0.1 7), .ref (s0.1 8), .int (nI (s_n s0)), .ref (s0.1 9), .int (nI (s_dt s0)), .ref (s0.1 10), .int (nI (s_h s0)), .ref (s0.1 11), .int (nI (s_p s0)), .ref (r0.1 0), .ref (r0.1 1), .int (nI (r0.2.2.2 0)), .ref (r0.1 2), .ref (r0.1 3), .ref (r0.1 4), .ref (r0.1 5), .ref (r0.1 6), .ref (r0.1 7), .ref (r0.1 8), .int (nI (r0.2.2.2 1)), .ref (r0.1 9), .ref (r0.1 10), .ref (r0.1 11), .int (nI (r0.2.2.2 2)), .ref (r0.1 12), .int (nI (r0.2.2.2 3)), .int (nI (r0.2.2.2 4)), .int (nI (r0.2.2.2 5)), .int (nI (r0.2.2.2 6)), .ref (r0.1 13), .int (nI (r0.2.2.2 7))]))] H := hP
  have hD : va_D _ [((s0.1 0), .inl (cR, (s0.2.1 0), .inl (s0.2.2.1 0))), ((r0.1 13), .inl (cR, 1000, .inl (r0.2.2.1 13))), (mo, .inr (5, [.int th, .ref (s0.1 0), .ref (s0.1 1), .ref (s0.1 2), .ref (s0.1 3), .ref (s0.1 4), .ref (s0.1 5), .ref (s0.1 6), .ref (s0.1 7), .ref (s0.1 8), .int (nI (s_n s0)), .ref (s0.1 9), .int (nI (s_dt s0)), .ref (s0.1 10), .int (nI (s_h s0)), .ref (s0.1 11), .int (nI (s_p s0)), .ref (r0.1 0), .ref (r0.1 1), .int (nI (r0.2.2.2 0)), .ref (r0.1 2), .ref (r0.1 3), .ref (r0.1 4), .ref (r0.1 5), .ref (r0.1 6), .ref (r0.1 7), .ref (r0.1 8), .int (nI (r0.2.2.2 1)), .ref (r0.1 9), .ref (r0.1 10), .ref (r0.1 11), .int (nI (r0.2.2.2 2)), .ref (r0.1 12), .int (nI (r0.2.2.2 3)), .int (nI (r0.2.2.2 4)), .int (nI (r0.2.2.2 5)), .int (nI (r0.2.2.2 6)), .ref (r0.1 13), .int (nI (r0.2.2.2 7))]))] := hD
  refine W.eq (g2 := F0 m 5 ls [.int (q_isF xx (r0.2.2.2 7))]) rfl ?_
  refine lv_if_eq (tgt := 31) hx hb dX6_constantOf_5 (by decide) (fun c_5 => ?_) (fun c_5 => ?_)
  · refine lv_iconst (v := 0) hx hb dX6_constantOf_31 (by decide) ?_
    refine ck_top (y := (nI 0)) rfl ?_
    exact ck_iret 0 hx hb hr rfl hlocks ⟨rfl, (Or.inl rfl)⟩ (hP.sub [2, 0, 1] rfl) (hK.sub [0] rfl) (hD.sub [2, 0, 1] (by decide) rfl) hS (by decide) (by decide) dX6_constantOf_32
  · obtain ⟨i9, hi9, ei9⟩ := isF_in hfm.1 c_5
    obtain ⟨hf1, hf2, hf3⟩ := hfm.2 i9 hi9
    have hfg := hfm.1
    subst ei9
    have hl : lv_has ls 2 [(0, .ref mo), (1, .int (nI i9))] := hl
    refine lv_aload_n hx hb dX6_constantOf_8 rfl (lv_at hl 0 rfl) ?_
    refine va_get (ci := 5) (v := .ref (s0.1 0)) (C := RX6) (T := TX6) (N := 39) hx hb hts inG_X6 hown hK hP 2 rfl rfl 1 (by decide) (hts _ tw_4_24) (fun _ h9 => h9) rfl dX6_constantOf_9 ?_
    refine lv_aload_n hx hb dX6_constantOf_12 rfl (lv_at hl 0 rfl) ?_
    refine va_get (ci := 5) (v := .ref (r0.1 13)) (C := RX6) (T := TX6) (N := 39) hx hb hts inG_X6 hown hK hP 2 rfl rfl 37 (by decide) (hts _ tw_4_60) (fun _ h9 => h9) rfl dX6_constantOf_13 ?_
    refine lv_iload_n hx hb dX6_constantOf_16 rfl (lv_at hl 1 rfl) ?_
    refine va_iald hx hb hK hP 1 0 rfl rfl (vp_in_nI (show i9 < 1000 by omega) (by decide)) dX6_constantOf_17 ?_
    refine ck_top (y := (nI (fv r0 i9))) (by rw [nI_clamp (show i9 < 2 ^ 31 by omega)]; exact hf1) ?_
    refine va_iald hx hb hK hP 0 0 rfl rfl (rI_in hR (by decide) hf2.2) dX6_constantOf_18 ?_
    refine ck_top (y := s_kd s0 (fv r0 i9)) (by rw [cl1 hR hf2.2]; rfl) ?_
    refine lv_if_ne (tgt := 31) hx hb dX6_constantOf_19 (by decide) (fun c_19 => ?_) (fun c_19 => ?_)
    · refine lv_iconst (v := 0) hx hb dX6_constantOf_31 (by decide) ?_
      refine ck_top (y := (nI 0)) rfl ?_
      exact ck_iret 0 hx hb hr rfl hlocks ⟨rfl, (Or.inl rfl)⟩ (hP.sub [2, 0, 1] rfl) (hK.sub [0] rfl) (hD.sub [2, 0, 1] (by decide) rfl) hS (by decide) (by decide) dX6_constantOf_32
    · refine lv_aload_n hx hb dX6_constantOf_22 rfl (lv_at hl 0 rfl) ?_
      refine va_get (ci := 5) (v := .ref (r0.1 13)) (C := RX6) (T := TX6) (N := 39) hx hb hts inG_X6 hown hK hP 2 rfl rfl 37 (by decide) (hts _ tw_4_60) (fun _ h9 => h9) rfl dX6_constantOf_23 ?_
      refine lv_iload_n hx hb dX6_constantOf_26 rfl (lv_at hl 1 rfl) ?_
      refine va_iald hx hb hK hP 1 0 rfl rfl (vp_in_nI (show i9 < 1000 by omega) (by decide)) dX6_constantOf_27 ?_
      refine ck_top (y := (nI (fv r0 i9))) (by rw [nI_clamp (show i9 < 2 ^ 31 by omega)]; exact hf1) ?_
      refine lv_goto (tgt := 32) hx hb dX6_constantOf_28 (by decide) ?_
      exact ck_iret (fv r0 i9) hx hb hr rfl hlocks ⟨rfl, (Or.inr ⟨hf2, c_19⟩)⟩ (hP.sub [2, 0, 1] rfl) (hK.sub [0] rfl) (hD.sub [2, 0, 1] (by decide) rfl) hS (by decide) (by decide) dX6_constantOf_32
