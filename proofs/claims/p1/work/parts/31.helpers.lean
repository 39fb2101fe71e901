set_option maxHeartbeats 4000000 in
set_option maxRecDepth 100000 in
theorem l_define (l : Launch) (hl0 : l.stackTraces = false) (D : va_G) (sz : Nat) (h fo mn df bl tr wk sd : Nat) (ou : Nat) (cJ : ClassId) (fl : Nat → Int64) (x y : Int32) : cM l yL_define (.codeWith yL_define cL_define 5 (some .int) [(0, 17, 20, 13)]) 28 900 1 6 [.ref h, .int x, .int y, .ref ou] D [(cJ, .long)] [(h, .inr (4, [.ref fo, .int 0, .int 0, .ref mn, .ref df, .int 0, .ref bl, .int 0, .int 0, .int 1, .int 0, .ref tr, .ref wk, .ref sd])), (ou, .inl (cJ, 1, .inr (.inl fl)))] sz (S := Unit) (fun v _ => v = some (.int 1)) (fun _ => []) (fun _ => []) := by
  refine cM_ofW (by decide) (Nat.le_of_ble_eq_true rfl) ?_
  intro p e s m below meth c ls hF hsz hP hK hD hE hZ hA hl
  obtain ⟨hx, hb, hr, hml, hown, hlocks, hnm, htb, hts⟩ := hF
  have hown : s.vm.findClass RL = some m.cls := hown
  have hl : lv_has ls 5 [(0, .ref h), (1, .int x), (2, .int y), (3, .ref ou)] := hl
  have hS : va_S (va_A [(h, .inr (4, [.ref fo, .int 0, .int 0, .ref mn, .ref df, .int 0, .ref bl, .int 0, .int 0, .int 1, .int 0, .ref tr, .ref wk, .ref sd])), (ou, .inl (cJ, 1, .inr (.inl fl)))] sz) s.heap s.heap [] := va_S.rf
  refine lv_aload_n hx hb dL_define_0 rfl (lv_at hl 3 rfl) ?_
  refine lv_iconst (v := 0) hx hb dL_define_1 (by decide) ?_
  refine lv_aload_n hx hb dL_define_2 rfl (lv_at hl 0 rfl) ?_
  refine lv_iload_n hx hb dL_define_3 rfl (lv_at hl 1 rfl) ?_
  refine lv_iload_n hx hb dL_define_4 rfl (lv_at hl 2 rfl) ?_
  refine cx_run (wr := [(ou, .inl (cJ, 1, .inr (.inl fl)))]) (vx_runV (C := RX5) (As := [.int x, .int y]) (rest := [.int 0, .ref ou]) ⟨hx, hb, hml, hown, hts⟩ (c_define l hl0 D s.heap.size h fo mn df bl tr wk sd x y) (cw_V (n := 2) hts tw_2_19 tw_2_20 tw_2_21 tw_1_1 tw_2_22 (by decide +kernel) ⟨by decide, by decide⟩) ⟨pre.blind, va_recv (q := (RX5, TX5, 14)) hK hP (ci := 4) (q0 := 0) rfl rfl, fun U hU hW => ⟨rfl, pre.of (wc := [(h, .inr (4, [.ref fo, .int 0, .int 0, .ref mn, .ref df, .int 0, .ref bl, .int 0, .int 0, .int 1, .int 0, .ref tr, .ref wk, .ref sd]))]) (tysc := []) (tk := []) hP hD hK hS hA hE hZ [0] (by decide) rfl rfl rfl U hU hW⟩⟩ rfl rfl hl.1 rfl (lv_room (Nat.le_of_ble_eq_true rfl)) dL_define_5 ⟨by decide, by decide⟩) hP hD hK hS hA [0] [1] rfl rfl (by decide) (by decide) (fun E ce q9 H locs hxE hP hD hS hce hcv hcl => ?_) (fun v u H locs hw _ _ _ _ => False.elim hw)
  subst hxE
  refine vx_catch (own := RL) (name := nIAE) hown [] ⟨0, 17, 20, 13⟩ [] (by rw [htb]; rfl) (fun z hz => nomatch hz) (by decide) (by decide) (hts _ tw_1_167) (hE.w tn_1_175 rfl) hce hcv hcl ?_
  refine W.eq (g2 := F0 m 20 ls [.ref q9]) rfl ?_
  refine lv_astore (lv' := [(4, .ref q9), (0, .ref h), (1, .int x), (2, .int y), (3, .ref ou)]) hx hb dL_define_20 hl (by decide) rfl (fun ls hl => ?_)
  refine lv_iconst (v := 1) hx hb dL_define_22 (by decide) ?_
  exact ck_iret () hx hb hr rfl hlocks rfl (hP.sub [] rfl) (hK.sub [] rfl) (hD.sub [] (by decide) rfl) hS (by decide) (by decide) dL_define_23
set_option maxHeartbeats 4000000 in
set_option maxRecDepth 100000 in
theorem l_atom (l : Launch) (hl0 : l.stackTraces = false) (D : va_G) (sz : Nat) (h fo mn df bl tr wk sd : Nat) (ou : Nat) (cJ : ClassId) (fl : Nat → Int64) (x y z : Int32) : cM l yL_atom (.codeWith yL_atom cL_atom 6 (some .int) [(0, 12, 15, 13), (0, 12, 19, 15)]) 28 900 1 6 [.ref h, .int x, .int y, .int z, .ref ou] D [(cJ, .long)] [(h, .inr (4, [.ref fo, .int 0, .int 0, .ref mn, .ref df, .int 0, .ref bl, .int 0, .int 0, .int 1, .int 0, .ref tr, .ref wk, .ref sd])), (ou, .inl (cJ, 1, .inr (.inl fl)))] sz (S := Unit) (fun v _ => v = some (.int 1)) (fun _ => []) (fun _ => []) := by
  refine cM_ofW (by decide) (Nat.le_of_ble_eq_true rfl) ?_
  intro p e s m below meth c ls hF hsz hP hK hD hE hZ hA hl
  obtain ⟨hx, hb, hr, hml, hown, hlocks, hnm, htb, hts⟩ := hF
  have hown : s.vm.findClass RL = some m.cls := hown
  have hl : lv_has ls 6 [(0, .ref h), (1, .int x), (2, .int y), (3, .int z), (4, .ref ou)] := hl
  have hS : va_S (va_A [(h, .inr (4, [.ref fo, .int 0, .int 0, .ref mn, .ref df, .int 0, .ref bl, .int 0, .int 0, .int 1, .int 0, .ref tr, .ref wk, .ref sd])), (ou, .inl (cJ, 1, .inr (.inl fl)))] sz) s.heap s.heap [] := va_S.rf
  refine lv_aload hx hb dL_atom_0 (lv_at hl 4 rfl) ?_
  refine lv_iconst (v := 0) hx hb dL_atom_2 (by decide) ?_
  refine lv_aload_n hx hb dL_atom_3 rfl (lv_at hl 0 rfl) ?_
  refine lv_iload_n hx hb dL_atom_4 rfl (lv_at hl 1 rfl) ?_
  refine lv_iload_n hx hb dL_atom_5 rfl (lv_at hl 2 rfl) ?_
  refine lv_iload_n hx hb dL_atom_6 rfl (lv_at hl 3 rfl) ?_
  refine cx_run (wr := [(ou, .inl (cJ, 1, .inr (.inl fl)))]) (vx_runV (C := RX5) (As := [.int x, .int y, .int z]) (rest := [.int 0, .ref ou]) ⟨hx, hb, hml, hown, hts⟩ (c_atom l hl0 D s.heap.size h fo mn df bl tr wk sd x y z) (cw_V (n := 3) hts tw_2_87 tw_2_88 tw_2_89 tw_1_1 tw_2_90 (by decide +kernel) ⟨by decide, by decide⟩) ⟨pre.blind, va_recv (q := (RX5, TX5, 14)) hK hP (ci := 4) (q0 := 0) rfl rfl, fun U hU hW => ⟨rfl, pre.of (wc := [(h, .inr (4, [.ref fo, .int 0, .int 0, .ref mn, .ref df, .int 0, .ref bl, .int 0, .int 0, .int 1, .int 0, .ref tr, .ref wk, .ref sd]))]) (tysc := []) (tk := []) hP hD hK hS hA hE hZ [0] (by decide) rfl rfl rfl U hU hW⟩⟩ rfl rfl hl.1 rfl (lv_room (Nat.le_of_ble_eq_true rfl)) dL_atom_7 ⟨by decide, by decide⟩) hP hD hK hS hA [0] [1] rfl rfl (by decide) (by decide) (fun E ce q9 H locs hxE hP hD hS hce hcv hcl => ?_) (fun v u H locs hw _ _ _ _ => False.elim hw)
  subst hxE
  refine vx_catch (own := RL) (name := nIAE) hown [] ⟨0, 12, 15, 13⟩ [⟨0, 12, 19, 15⟩] (by rw [htb]; rfl) (fun z hz => nomatch hz) (by decide) (by decide) (hts _ tw_1_167) (hE.w tn_1_175 rfl) hce hcv hcl ?_
  refine W.eq (g2 := F0 m 15 ls [.ref q9]) rfl ?_
  refine lv_astore (lv' := [(5, .ref q9), (0, .ref h), (1, .int x), (2, .int y), (3, .int z), (4, .ref ou)]) hx hb dL_atom_15 hl (by decide) rfl (fun ls hl => ?_)
  refine lv_iconst (v := 1) hx hb dL_atom_17 (by decide) ?_
  exact ck_iret () hx hb hr rfl hlocks rfl (hP.sub [] rfl) (hK.sub [] rfl) (hD.sub [] (by decide) rfl) hS (by decide) (by decide) dL_atom_18
set_option maxHeartbeats 4000000 in
set_option maxRecDepth 100000 in
theorem l_bind (l : Launch) (hl0 : l.stackTraces = false) (D : va_G) (sz : Nat) (h fo mn df bl tr wk sd : Nat) (ou : Nat) (cJ : ClassId) (fl : Nat → Int64) (x y z : Int32) : cM l yL_bind (.codeWith yL_bind cL_bind 6 (some .int) [(0, 12, 15, 13), (0, 12, 19, 15)]) 28 900 1 6 [.ref h, .int x, .int y, .int z, .ref ou] D [(cJ, .long)] [(h, .inr (4, [.ref fo, .int 0, .int 0, .ref mn, .ref df, .int 0, .ref bl, .int 0, .int 0, .int 1, .int 0, .ref tr, .ref wk, .ref sd])), (ou, .inl (cJ, 1, .inr (.inl fl)))] sz (S := Unit) (fun v _ => v = some (.int 1)) (fun _ => []) (fun _ => []) := by
  refine cM_ofW (by decide) (Nat.le_of_ble_eq_true rfl) ?_
  intro p e s m below meth c ls hF hsz hP hK hD hE hZ hA hl
  obtain ⟨hx, hb, hr, hml, hown, hlocks, hnm, htb, hts⟩ := hF
  have hown : s.vm.findClass RL = some m.cls := hown
  have hl : lv_has ls 6 [(0, .ref h), (1, .int x), (2, .int y), (3, .int z), (4, .ref ou)] := hl
  have hS : va_S (va_A [(h, .inr (4, [.ref fo, .int 0, .int 0, .ref mn, .ref df, .int 0, .ref bl, .int 0, .int 0, .int 1, .int 0, .ref tr, .ref wk, .ref sd])), (ou, .inl (cJ, 1, .inr (.inl fl)))] sz) s.heap s.heap [] := va_S.rf
  refine lv_aload hx hb dL_bind_0 (lv_at hl 4 rfl) ?_
  refine lv_iconst (v := 0) hx hb dL_bind_2 (by decide) ?_
  refine lv_aload_n hx hb dL_bind_3 rfl (lv_at hl 0 rfl) ?_
  refine lv_iload_n hx hb dL_bind_4 rfl (lv_at hl 1 rfl) ?_
  refine lv_iload_n hx hb dL_bind_5 rfl (lv_at hl 2 rfl) ?_
  refine lv_iload_n hx hb dL_bind_6 rfl (lv_at hl 3 rfl) ?_
  refine cx_run (wr := [(ou, .inl (cJ, 1, .inr (.inl fl)))]) (vx_runV (C := RX5) (As := [.int x, .int y, .int z]) (rest := [.int 0, .ref ou]) ⟨hx, hb, hml, hown, hts⟩ (c_bind l hl0 D s.heap.size h fo mn df bl tr wk sd x y z) (cw_V (n := 3) hts tw_2_202 tw_2_203 tw_2_204 tw_1_1 tw_2_205 (by decide +kernel) ⟨by decide, by decide⟩) ⟨pre.blind, va_recv (q := (RX5, TX5, 14)) hK hP (ci := 4) (q0 := 0) rfl rfl, fun U hU hW => ⟨rfl, pre.of (wc := [(h, .inr (4, [.ref fo, .int 0, .int 0, .ref mn, .ref df, .int 0, .ref bl, .int 0, .int 0, .int 1, .int 0, .ref tr, .ref wk, .ref sd]))]) (tysc := []) (tk := []) hP hD hK hS hA hE hZ [0] (by decide) rfl rfl rfl U hU hW⟩⟩ rfl rfl hl.1 rfl (lv_room (Nat.le_of_ble_eq_true rfl)) dL_bind_7 ⟨by decide, by decide⟩) hP hD hK hS hA [0] [1] rfl rfl (by decide) (by decide) (fun E ce q9 H locs hxE hP hD hS hce hcv hcl => ?_) (fun v u H locs hw _ _ _ _ => False.elim hw)
  subst hxE
  refine vx_catch (own := RL) (name := nIAE) hown [] ⟨0, 12, 15, 13⟩ [⟨0, 12, 19, 15⟩] (by rw [htb]; rfl) (fun z hz => nomatch hz) (by decide) (by decide) (hts _ tw_1_167) (hE.w tn_1_175 rfl) hce hcv hcl ?_
  refine W.eq (g2 := F0 m 15 ls [.ref q9]) rfl ?_
  refine lv_astore (lv' := [(5, .ref q9), (0, .ref h), (1, .int x), (2, .int y), (3, .int z), (4, .ref ou)]) hx hb dL_bind_15 hl (by decide) rfl (fun ls hl => ?_)
  refine lv_iconst (v := 1) hx hb dL_bind_17 (by decide) ?_
  exact ck_iret () hx hb hr rfl hlocks rfl (hP.sub [] rfl) (hK.sub [] rfl) (hD.sub [] (by decide) rfl) hS (by decide) (by decide) dL_bind_18
set_option maxHeartbeats 4000000 in
set_option maxRecDepth 100000 in
theorem l_proof (l : Launch) (hl0 : l.stackTraces = false) (D : va_G) (sz : Nat) (h fo mn df bl tr wk sd : Nat) (ou : Nat) (cJ : ClassId) (fl : Nat → Int64) (x : Int32) : cM l yL_proof (.codeWith yL_proof cL_proof 4 (some .int) [(0, 9, 12, 13), (0, 9, 15, 15)]) 28 900 1 6 [.ref h, .int x, .ref ou] D [(cJ, .long)] [(h, .inr (4, [.ref fo, .int 0, .int 0, .ref mn, .ref df, .int 0, .ref bl, .int 0, .int 0, .int 1, .int 0, .ref tr, .ref wk, .ref sd])), (ou, .inl (cJ, 1, .inr (.inl fl)))] sz (S := Unit) (fun v _ => v = some (.int 1)) (fun _ => []) (fun _ => []) := by
  refine cM_ofW (by decide) (Nat.le_of_ble_eq_true rfl) ?_
  intro p e s m below meth c ls hF hsz hP hK hD hE hZ hA hl
  obtain ⟨hx, hb, hr, hml, hown, hlocks, hnm, htb, hts⟩ := hF
  have hown : s.vm.findClass RL = some m.cls := hown
  have hl : lv_has ls 4 [(0, .ref h), (1, .int x), (2, .ref ou)] := hl
  have hS : va_S (va_A [(h, .inr (4, [.ref fo, .int 0, .int 0, .ref mn, .ref df, .int 0, .ref bl, .int 0, .int 0, .int 1, .int 0, .ref tr, .ref wk, .ref sd])), (ou, .inl (cJ, 1, .inr (.inl fl)))] sz) s.heap s.heap [] := va_S.rf
  refine lv_aload_n hx hb dL_proof_0 rfl (lv_at hl 2 rfl) ?_
  refine lv_iconst (v := 0) hx hb dL_proof_1 (by decide) ?_
  refine lv_aload_n hx hb dL_proof_2 rfl (lv_at hl 0 rfl) ?_
  refine lv_iload_n hx hb dL_proof_3 rfl (lv_at hl 1 rfl) ?_
  refine cx_run (wr := [(ou, .inl (cJ, 1, .inr (.inl fl)))]) (vx_runV (C := RX5) (As := [.int x]) (rest := [.int 0, .ref ou]) ⟨hx, hb, hml, hown, hts⟩ (c_proof l hl0 D s.heap.size h fo mn df bl tr wk sd x) (cw_V (n := 1) hts tw_2_224 tw_2_225 tw_2_226 tw_1_1 tw_2_227 (by decide +kernel) ⟨by decide, by decide⟩) ⟨pre.blind, va_recv (q := (RX5, TX5, 14)) hK hP (ci := 4) (q0 := 0) rfl rfl, fun U hU hW => ⟨rfl, pre.of (wc := [(h, .inr (4, [.ref fo, .int 0, .int 0, .ref mn, .ref df, .int 0, .ref bl, .int 0, .int 0, .int 1, .int 0, .ref tr, .ref wk, .ref sd]))]) (tysc := []) (tk := []) hP hD hK hS hA hE hZ [0] (by decide) rfl rfl rfl U hU hW⟩⟩ rfl rfl hl.1 rfl (lv_room (Nat.le_of_ble_eq_true rfl)) dL_proof_4 ⟨by decide, by decide⟩) hP hD hK hS hA [0] [1] rfl rfl (by decide) (by decide) (fun E ce q9 H locs hxE hP hD hS hce hcv hcl => ?_) (fun v u H locs hw _ _ _ _ => False.elim hw)
  subst hxE
  refine vx_catch (own := RL) (name := nIAE) hown [] ⟨0, 9, 12, 13⟩ [⟨0, 9, 15, 15⟩] (by rw [htb]; rfl) (fun z hz => nomatch hz) (by decide) (by decide) (hts _ tw_1_167) (hE.w tn_1_175 rfl) hce hcv hcl ?_
  refine W.eq (g2 := F0 m 12 ls [.ref q9]) rfl ?_
  refine lv_astore_n (lv' := [(3, .ref q9), (0, .ref h), (1, .int x), (2, .ref ou)]) hx hb dL_proof_12 rfl hl (by decide) rfl (fun ls hl => ?_)
  refine lv_iconst (v := 1) hx hb dL_proof_13 (by decide) ?_
  exact ck_iret () hx hb hr rfl hlocks rfl (hP.sub [] rfl) (hK.sub [] rfl) (hD.sub [] (by decide) rfl) hS (by decide) (by decide) dL_proof_14
set_option maxHeartbeats 4000000 in
set_option maxRecDepth 100000 in
theorem l_let (l : Launch) (hl0 : l.stackTraces = false) (D : va_G) (sz : Nat) (h fo mn df bl tr wk sd : Nat) (ou : Nat) (cJ : ClassId) (fl : Nat → Int64) : cM l yL_let (.codeWith yL_let cL_let 3 (some .int) [(0, 8, 11, 15)]) 28 900 1 6 [.ref h, .ref ou] D [(cJ, .long)] [(h, .inr (4, [.ref fo, .int 0, .int 0, .ref mn, .ref df, .int 0, .ref bl, .int 0, .int 0, .int 1, .int 0, .ref tr, .ref wk, .ref sd])), (ou, .inl (cJ, 1, .inr (.inl fl)))] sz (S := Unit) (fun v _ => v = some (.int 1)) (fun _ => []) (fun _ => []) := by
  refine cM_ofW (by decide) (Nat.le_of_ble_eq_true rfl) ?_
  intro p e s m below meth c ls hF hsz hP hK hD hE hZ hA hl
  obtain ⟨hx, hb, hr, hml, hown, hlocks, hnm, htb, hts⟩ := hF
  have hown : s.vm.findClass RL = some m.cls := hown
  have hl : lv_has ls 3 [(0, .ref h), (1, .ref ou)] := hl
  have hS : va_S (va_A [(h, .inr (4, [.ref fo, .int 0, .int 0, .ref mn, .ref df, .int 0, .ref bl, .int 0, .int 0, .int 1, .int 0, .ref tr, .ref wk, .ref sd])), (ou, .inl (cJ, 1, .inr (.inl fl)))] sz) s.heap s.heap [] := va_S.rf
  refine lv_aload_n hx hb dL_let_0 rfl (lv_at hl 1 rfl) ?_
  refine lv_iconst (v := 0) hx hb dL_let_1 (by decide) ?_
  refine lv_aload_n hx hb dL_let_2 rfl (lv_at hl 0 rfl) ?_
  refine cx_run (wr := [(ou, .inl (cJ, 1, .inr (.inl fl)))]) (vx_runV (C := RX5) (As := []) (rest := [.int 0, .ref ou]) ⟨hx, hb, hml, hown, hts⟩ (c_let l hl0 D s.heap.size h fo mn df bl tr wk sd) (cw_V (n := 0) hts tw_3_21 tw_3_22 tw_3_23 tw_1_1 tw_3_24 (by decide +kernel) ⟨by decide, by decide⟩) ⟨pre.blind, va_recv (q := (RX5, TX5, 14)) hK hP (ci := 4) (q0 := 0) rfl rfl, fun U hU hW => ⟨rfl, pre.of (wc := [(h, .inr (4, [.ref fo, .int 0, .int 0, .ref mn, .ref df, .int 0, .ref bl, .int 0, .int 0, .int 1, .int 0, .ref tr, .ref wk, .ref sd]))]) (tysc := []) (tk := []) hP hD hK hS hA hE hZ [0] (by decide) rfl rfl rfl U hU hW⟩⟩ rfl rfl hl.1 rfl (lv_room (Nat.le_of_ble_eq_true rfl)) dL_let_3 ⟨by decide, by decide⟩) hP hD hK hS hA [0] [1] rfl rfl (by decide) (by decide) (fun E ce q9 H locs hxE hP hD hS hce hcv hcl => ?_) (fun v u H locs hw _ _ _ _ => False.elim hw)
  subst hxE
  refine vx_catch (own := RL) (name := nISE) hown [] ⟨0, 8, 11, 15⟩ [] (by rw [htb]; rfl) (fun z hz => nomatch hz) (by decide) (by decide) (hts _ tw_1_168) (hE.w tn_2_2 rfl) hce hcv hcl ?_
  refine W.eq (g2 := F0 m 11 ls [.ref q9]) rfl ?_
  refine lv_astore_n (lv' := [(2, .ref q9), (0, .ref h), (1, .ref ou)]) hx hb dL_let_11 rfl hl (by decide) rfl (fun ls hl => ?_)
  refine lv_iconst (v := 1) hx hb dL_let_12 (by decide) ?_
  exact ck_iret () hx hb hr rfl hlocks rfl (hP.sub [] rfl) (hK.sub [] rfl) (hD.sub [] (by decide) rfl) hS (by decide) (by decide) dL_let_13
set_option maxHeartbeats 4000000 in
set_option maxRecDepth 100000 in
theorem l_assume (l : Launch) (hl0 : l.stackTraces = false) (D : va_G) (sz : Nat) (h fo mn df bl tr wk sd : Nat) (ou : Nat) (cJ : ClassId) (fl : Nat → Int64) (x : Int32) : cM l yL_assume (.codeWith yL_assume cL_assume 4 (some .int) [(0, 16, 19, 13), (0, 16, 22, 15)]) 28 900 1 6 [.ref h, .int x, .ref ou] D [(cJ, .long)] [(h, .inr (4, [.ref fo, .int 0, .int 0, .ref mn, .ref df, .int 0, .ref bl, .int 0, .int 0, .int 1, .int 0, .ref tr, .ref wk, .ref sd])), (ou, .inl (cJ, 1, .inr (.inl fl)))] sz (S := Unit) (fun v _ => v = some (.int 1)) (fun _ => []) (fun _ => []) := by
  refine cM_ofW (by decide) (Nat.le_of_ble_eq_true rfl) ?_
  intro p e s m below meth c ls hF hsz hP hK hD hE hZ hA hl
  obtain ⟨hx, hb, hr, hml, hown, hlocks, hnm, htb, hts⟩ := hF
  have hown : s.vm.findClass RL = some m.cls := hown
  have hl : lv_has ls 4 [(0, .ref h), (1, .int x), (2, .ref ou)] := hl
  have hS : va_S (va_A [(h, .inr (4, [.ref fo, .int 0, .int 0, .ref mn, .ref df, .int 0, .ref bl, .int 0, .int 0, .int 1, .int 0, .ref tr, .ref wk, .ref sd])), (ou, .inl (cJ, 1, .inr (.inl fl)))] sz) s.heap s.heap [] := va_S.rf
  refine lv_aload_n hx hb dL_assume_0 rfl (lv_at hl 2 rfl) ?_
  refine lv_iconst (v := 0) hx hb dL_assume_1 (by decide) ?_
  refine lv_aload_n hx hb dL_assume_2 rfl (lv_at hl 0 rfl) ?_
  refine lv_iload_n hx hb dL_assume_3 rfl (lv_at hl 1 rfl) ?_
  refine cx_run (wr := [(ou, .inl (cJ, 1, .inr (.inl fl)))]) (vx_runV (C := RX5) (As := [.int x]) (rest := [.int 0, .ref ou]) ⟨hx, hb, hml, hown, hts⟩ (c_assume l hl0 D s.heap.size h fo mn df bl tr wk sd x) (cw_V (n := 1) hts tw_3_119 tw_3_120 tw_3_121 tw_1_1 tw_3_122 (by decide +kernel) ⟨by decide, by decide⟩) ⟨pre.blind, va_recv (q := (RX5, TX5, 14)) hK hP (ci := 4) (q0 := 0) rfl rfl, fun U hU hW => ⟨rfl, pre.of (wc := [(h, .inr (4, [.ref fo, .int 0, .int 0, .ref mn, .ref df, .int 0, .ref bl, .int 0, .int 0, .int 1, .int 0, .ref tr, .ref wk, .ref sd]))]) (tysc := []) (tk := []) hP hD hK hS hA hE hZ [0] (by decide) rfl rfl rfl U hU hW⟩⟩ rfl rfl hl.1 rfl (lv_room (Nat.le_of_ble_eq_true rfl)) dL_assume_4 ⟨by decide, by decide⟩) hP hD hK hS hA [0] [1] rfl rfl (by decide) (by decide) (fun E ce q9 H locs hxE hP hD hS hce hcv hcl => ?_) (fun v u H locs hw _ _ _ _ => False.elim hw)
  subst hxE
  refine vx_catch (own := RL) (name := nIAE) hown [] ⟨0, 16, 19, 13⟩ [⟨0, 16, 22, 15⟩] (by rw [htb]; rfl) (fun z hz => nomatch hz) (by decide) (by decide) (hts _ tw_1_167) (hE.w tn_1_175 rfl) hce hcv hcl ?_
  refine W.eq (g2 := F0 m 19 ls [.ref q9]) rfl ?_
  refine lv_astore_n (lv' := [(3, .ref q9), (0, .ref h), (1, .int x), (2, .ref ou)]) hx hb dL_assume_19 rfl hl (by decide) rfl (fun ls hl => ?_)
  refine lv_iconst (v := 1) hx hb dL_assume_20 (by decide) ?_
  exact ck_iret () hx hb hr rfl hlocks rfl (hP.sub [] rfl) (hK.sub [] rfl) (hD.sub [] (by decide) rfl) hS (by decide) (by decide) dL_assume_21
set_option maxHeartbeats 4000000 in
set_option maxRecDepth 100000 in
theorem l_thus (l : Launch) (hl0 : l.stackTraces = false) (D : va_G) (sz : Nat) (h fo mn df bl tr wk sd : Nat) (ou : Nat) (cJ : ClassId) (fl : Nat → Int64) (x : Int32) : cM l yL_thus (.codeWith yL_thus cL_thus 4 (some .int) [(0, 16, 19, 13), (0, 16, 22, 15)]) 28 900 1 6 [.ref h, .int x, .ref ou] D [(cJ, .long)] [(h, .inr (4, [.ref fo, .int 0, .int 0, .ref mn, .ref df, .int 0, .ref bl, .int 0, .int 0, .int 1, .int 0, .ref tr, .ref wk, .ref sd])), (ou, .inl (cJ, 1, .inr (.inl fl)))] sz (S := Unit) (fun v _ => v = some (.int 1)) (fun _ => []) (fun _ => []) := by
  refine cM_ofW (by decide) (Nat.le_of_ble_eq_true rfl) ?_
  intro p e s m below meth c ls hF hsz hP hK hD hE hZ hA hl
  obtain ⟨hx, hb, hr, hml, hown, hlocks, hnm, htb, hts⟩ := hF
  have hown : s.vm.findClass RL = some m.cls := hown
  have hl : lv_has ls 4 [(0, .ref h), (1, .int x), (2, .ref ou)] := hl
  have hS : va_S (va_A [(h, .inr (4, [.ref fo, .int 0, .int 0, .ref mn, .ref df, .int 0, .ref bl, .int 0, .int 0, .int 1, .int 0, .ref tr, .ref wk, .ref sd])), (ou, .inl (cJ, 1, .inr (.inl fl)))] sz) s.heap s.heap [] := va_S.rf
  refine lv_aload_n hx hb dL_thus_0 rfl (lv_at hl 2 rfl) ?_
  refine lv_iconst (v := 0) hx hb dL_thus_1 (by decide) ?_
  refine lv_aload_n hx hb dL_thus_2 rfl (lv_at hl 0 rfl) ?_
  refine lv_iload_n hx hb dL_thus_3 rfl (lv_at hl 1 rfl) ?_
  refine cx_run (wr := [(ou, .inl (cJ, 1, .inr (.inl fl)))]) (vx_runV (C := RX5) (As := [.int x]) (rest := [.int 0, .ref ou]) ⟨hx, hb, hml, hown, hts⟩ (c_thus l hl0 D s.heap.size h fo mn df bl tr wk sd x) (cw_V (n := 1) hts tw_3_126 tw_3_127 tw_3_128 tw_1_1 tw_3_129 (by decide +kernel) ⟨by decide, by decide⟩) ⟨pre.blind, va_recv (q := (RX5, TX5, 14)) hK hP (ci := 4) (q0 := 0) rfl rfl, fun U hU hW => ⟨rfl, pre.of (wc := [(h, .inr (4, [.ref fo, .int 0, .int 0, .ref mn, .ref df, .int 0, .ref bl, .int 0, .int 0, .int 1, .int 0, .ref tr, .ref wk, .ref sd]))]) (tysc := []) (tk := []) hP hD hK hS hA hE hZ [0] (by decide) rfl rfl rfl U hU hW⟩⟩ rfl rfl hl.1 rfl (lv_room (Nat.le_of_ble_eq_true rfl)) dL_thus_4 ⟨by decide, by decide⟩) hP hD hK hS hA [0] [1] rfl rfl (by decide) (by decide) (fun E ce q9 H locs hxE hP hD hS hce hcv hcl => ?_) (fun v u H locs hw _ _ _ _ => False.elim hw)
  subst hxE
  refine vx_catch (own := RL) (name := nIAE) hown [] ⟨0, 16, 19, 13⟩ [⟨0, 16, 22, 15⟩] (by rw [htb]; rfl) (fun z hz => nomatch hz) (by decide) (by decide) (hts _ tw_1_167) (hE.w tn_1_175 rfl) hce hcv hcl ?_
  refine W.eq (g2 := F0 m 19 ls [.ref q9]) rfl ?_
  refine lv_astore_n (lv' := [(3, .ref q9), (0, .ref h), (1, .int x), (2, .ref ou)]) hx hb dL_thus_19 rfl hl (by decide) rfl (fun ls hl => ?_)
  refine lv_iconst (v := 1) hx hb dL_thus_20 (by decide) ?_
  exact ck_iret () hx hb hr rfl hlocks rfl (hP.sub [] rfl) (hK.sub [] rfl) (hD.sub [] (by decide) rfl) hS (by decide) (by decide) dL_thus_21
set_option maxHeartbeats 4000000 in
set_option maxRecDepth 100000 in
theorem l_take (l : Launch) (hl0 : l.stackTraces = false) (D : va_G) (sz : Nat) (h fo mn df bl tr wk sd : Nat) (ou : Nat) (cJ : ClassId) (fl : Nat → Int64) (x : Int32) : cM l yL_take (.codeWith yL_take cL_take 4 (some .int) [(0, 16, 19, 13), (0, 16, 22, 15)]) 28 900 1 6 [.ref h, .int x, .ref ou] D [(cJ, .long)] [(h, .inr (4, [.ref fo, .int 0, .int 0, .ref mn, .ref df, .int 0, .ref bl, .int 0, .int 0, .int 1, .int 0, .ref tr, .ref wk, .ref sd])), (ou, .inl (cJ, 1, .inr (.inl fl)))] sz (S := Unit) (fun v _ => v = some (.int 1)) (fun _ => []) (fun _ => []) := by
  refine cM_ofW (by decide) (Nat.le_of_ble_eq_true rfl) ?_
  intro p e s m below meth c ls hF hsz hP hK hD hE hZ hA hl
  obtain ⟨hx, hb, hr, hml, hown, hlocks, hnm, htb, hts⟩ := hF
  have hown : s.vm.findClass RL = some m.cls := hown
  have hl : lv_has ls 4 [(0, .ref h), (1, .int x), (2, .ref ou)] := hl
  have hS : va_S (va_A [(h, .inr (4, [.ref fo, .int 0, .int 0, .ref mn, .ref df, .int 0, .ref bl, .int 0, .int 0, .int 1, .int 0, .ref tr, .ref wk, .ref sd])), (ou, .inl (cJ, 1, .inr (.inl fl)))] sz) s.heap s.heap [] := va_S.rf
  refine lv_aload_n hx hb dL_take_0 rfl (lv_at hl 2 rfl) ?_
  refine lv_iconst (v := 0) hx hb dL_take_1 (by decide) ?_
  refine lv_aload_n hx hb dL_take_2 rfl (lv_at hl 0 rfl) ?_
  refine lv_iload_n hx hb dL_take_3 rfl (lv_at hl 1 rfl) ?_
  refine cx_run (wr := [(ou, .inl (cJ, 1, .inr (.inl fl)))]) (vx_runV (C := RX5) (As := [.int x]) (rest := [.int 0, .ref ou]) ⟨hx, hb, hml, hown, hts⟩ (c_take l hl0 D s.heap.size h fo mn df bl tr wk sd x) (cw_V (n := 1) hts tw_3_133 tw_3_134 tw_3_135 tw_1_1 tw_3_136 (by decide +kernel) ⟨by decide, by decide⟩) ⟨pre.blind, va_recv (q := (RX5, TX5, 14)) hK hP (ci := 4) (q0 := 0) rfl rfl, fun U hU hW => ⟨rfl, pre.of (wc := [(h, .inr (4, [.ref fo, .int 0, .int 0, .ref mn, .ref df, .int 0, .ref bl, .int 0, .int 0, .int 1, .int 0, .ref tr, .ref wk, .ref sd]))]) (tysc := []) (tk := []) hP hD hK hS hA hE hZ [0] (by decide) rfl rfl rfl U hU hW⟩⟩ rfl rfl hl.1 rfl (lv_room (Nat.le_of_ble_eq_true rfl)) dL_take_4 ⟨by decide, by decide⟩) hP hD hK hS hA [0] [1] rfl rfl (by decide) (by decide) (fun E ce q9 H locs hxE hP hD hS hce hcv hcl => ?_) (fun v u H locs hw _ _ _ _ => False.elim hw)
  subst hxE
  refine vx_catch (own := RL) (name := nIAE) hown [] ⟨0, 16, 19, 13⟩ [⟨0, 16, 22, 15⟩] (by rw [htb]; rfl) (fun z hz => nomatch hz) (by decide) (by decide) (hts _ tw_1_167) (hE.w tn_1_175 rfl) hce hcv hcl ?_
  refine W.eq (g2 := F0 m 19 ls [.ref q9]) rfl ?_
  refine lv_astore_n (lv' := [(3, .ref q9), (0, .ref h), (1, .int x), (2, .ref ou)]) hx hb dL_take_19 rfl hl (by decide) rfl (fun ls hl => ?_)
  refine lv_iconst (v := 1) hx hb dL_take_20 (by decide) ?_
  exact ck_iret () hx hb hr rfl hlocks rfl (hP.sub [] rfl) (hK.sub [] rfl) (hD.sub [] (by decide) rfl) hS (by decide) (by decide) dL_take_21
set_option maxHeartbeats 4000000 in
set_option maxRecDepth 100000 in
theorem l_given (l : Launch) (hl0 : l.stackTraces = false) (D : va_G) (sz : Nat) (h fo mn df bl tr wk sd : Nat) (ou : Nat) (cJ : ClassId) (fl : Nat → Int64) (x y : Int32) : cM l yL_given (.codeWith yL_given cL_given 5 (some .int) [(0, 17, 20, 13), (0, 17, 24, 15)]) 28 900 1 6 [.ref h, .int x, .int y, .ref ou] D [(cJ, .long)] [(h, .inr (4, [.ref fo, .int 0, .int 0, .ref mn, .ref df, .int 0, .ref bl, .int 0, .int 0, .int 1, .int 0, .ref tr, .ref wk, .ref sd])), (ou, .inl (cJ, 1, .inr (.inl fl)))] sz (S := Unit) (fun v _ => v = some (.int 1)) (fun _ => []) (fun _ => []) := by
  refine cM_ofW (by decide) (Nat.le_of_ble_eq_true rfl) ?_
  intro p e s m below meth c ls hF hsz hP hK hD hE hZ hA hl
  obtain ⟨hx, hb, hr, hml, hown, hlocks, hnm, htb, hts⟩ := hF
  have hown : s.vm.findClass RL = some m.cls := hown
  have hl : lv_has ls 5 [(0, .ref h), (1, .int x), (2, .int y), (3, .ref ou)] := hl
  have hS : va_S (va_A [(h, .inr (4, [.ref fo, .int 0, .int 0, .ref mn, .ref df, .int 0, .ref bl, .int 0, .int 0, .int 1, .int 0, .ref tr, .ref wk, .ref sd])), (ou, .inl (cJ, 1, .inr (.inl fl)))] sz) s.heap s.heap [] := va_S.rf
  refine lv_aload_n hx hb dL_given_0 rfl (lv_at hl 3 rfl) ?_
  refine lv_iconst (v := 0) hx hb dL_given_1 (by decide) ?_
  refine lv_aload_n hx hb dL_given_2 rfl (lv_at hl 0 rfl) ?_
  refine lv_iload_n hx hb dL_given_3 rfl (lv_at hl 1 rfl) ?_
  refine lv_iload_n hx hb dL_given_4 rfl (lv_at hl 2 rfl) ?_
  refine cx_run (wr := [(ou, .inl (cJ, 1, .inr (.inl fl)))]) (vx_runV (C := RX5) (As := [.int x, .int y]) (rest := [.int 0, .ref ou]) ⟨hx, hb, hml, hown, hts⟩ (c_given l hl0 D s.heap.size h fo mn df bl tr wk sd x y) (cw_V (n := 2) hts tw_3_142 tw_3_143 tw_3_144 tw_1_1 tw_3_145 (by decide +kernel) ⟨by decide, by decide⟩) ⟨pre.blind, va_recv (q := (RX5, TX5, 14)) hK hP (ci := 4) (q0 := 0) rfl rfl, fun U hU hW => ⟨rfl, pre.of (wc := [(h, .inr (4, [.ref fo, .int 0, .int 0, .ref mn, .ref df, .int 0, .ref bl, .int 0, .int 0, .int 1, .int 0, .ref tr, .ref wk, .ref sd]))]) (tysc := []) (tk := []) hP hD hK hS hA hE hZ [0] (by decide) rfl rfl rfl U hU hW⟩⟩ rfl rfl hl.1 rfl (lv_room (Nat.le_of_ble_eq_true rfl)) dL_given_5 ⟨by decide, by decide⟩) hP hD hK hS hA [0] [1] rfl rfl (by decide) (by decide) (fun E ce q9 H locs hxE hP hD hS hce hcv hcl => ?_) (fun v u H locs hw _ _ _ _ => False.elim hw)
  subst hxE
  refine vx_catch (own := RL) (name := nIAE) hown [] ⟨0, 17, 20, 13⟩ [⟨0, 17, 24, 15⟩] (by rw [htb]; rfl) (fun z hz => nomatch hz) (by decide) (by decide) (hts _ tw_1_167) (hE.w tn_1_175 rfl) hce hcv hcl ?_
  refine W.eq (g2 := F0 m 20 ls [.ref q9]) rfl ?_
  refine lv_astore (lv' := [(4, .ref q9), (0, .ref h), (1, .int x), (2, .int y), (3, .ref ou)]) hx hb dL_given_20 hl (by decide) rfl (fun ls hl => ?_)
  refine lv_iconst (v := 1) hx hb dL_given_22 (by decide) ?_
  exact ck_iret () hx hb hr rfl hlocks rfl (hP.sub [] rfl) (hK.sub [] rfl) (hD.sub [] (by decide) rfl) hS (by decide) (by decide) dL_given_23
set_option maxHeartbeats 4000000 in
set_option maxRecDepth 100000 in
theorem l_cases (l : Launch) (hl0 : l.stackTraces = false) (D : va_G) (sz : Nat) (h fo mn df bl tr wk sd : Nat) : cM l yL_cases (.codeWith yL_cases cL_cases 2 (some .int) [(0, 4, 7, 15)]) 28 900 1 6 [.ref h] D [] [(h, .inr (4, [.ref fo, .int 0, .int 0, .ref mn, .ref df, .int 0, .ref bl, .int 0, .int 0, .int 1, .int 0, .ref tr, .ref wk, .ref sd]))] sz (S := Unit) (fun v _ => v = some (.int 1)) (fun _ => []) (fun _ => []) := by
  refine cM_ofW (by decide) (Nat.le_of_ble_eq_true rfl) ?_
  intro p e s m below meth c ls hF hsz hP hK hD hE hZ hA hl
  obtain ⟨hx, hb, hr, hml, hown, hlocks, hnm, htb, hts⟩ := hF
  have hown : s.vm.findClass RL = some m.cls := hown
  have hl : lv_has ls 2 [(0, .ref h)] := hl
  have hS : va_S (va_A [(h, .inr (4, [.ref fo, .int 0, .int 0, .ref mn, .ref df, .int 0, .ref bl, .int 0, .int 0, .int 1, .int 0, .ref tr, .ref wk, .ref sd]))] sz) s.heap s.heap [] := va_S.rf
  refine lv_aload_n hx hb dL_cases_0 rfl (lv_at hl 0 rfl) ?_
  refine cx_run (wr := []) (vx_runV (C := RX5) (As := []) (rest := []) ⟨hx, hb, hml, hown, hts⟩ (c_cases l hl0 D s.heap.size h fo mn df bl tr wk sd) (cw_V (n := 0) hts tw_3_150 tw_3_151 tw_3_152 tw_1_1 tw_3_153 (by decide +kernel) ⟨by decide, by decide⟩) ⟨pre.blind, va_recv (q := (RX5, TX5, 14)) hK hP (ci := 4) (q0 := 0) rfl rfl, fun U hU hW => ⟨rfl, pre.of (wc := [(h, .inr (4, [.ref fo, .int 0, .int 0, .ref mn, .ref df, .int 0, .ref bl, .int 0, .int 0, .int 1, .int 0, .ref tr, .ref wk, .ref sd]))]) (tysc := []) (tk := []) hP hD hK hS hA hE hZ [0] (by decide) rfl rfl rfl U hU hW⟩⟩ rfl rfl hl.1 rfl (lv_room (Nat.le_of_ble_eq_true rfl)) dL_cases_1 ⟨by decide, by decide⟩) hP hD hK hS hA [0] [] rfl rfl (by decide) (by decide) (fun E ce q9 H locs hxE hP hD hS hce hcv hcl => ?_) (fun v u H locs hw _ _ _ _ => False.elim hw)
  subst hxE
  refine vx_catch (own := RL) (name := nISE) hown [] ⟨0, 4, 7, 15⟩ [] (by rw [htb]; rfl) (fun z hz => nomatch hz) (by decide) (by decide) (hts _ tw_1_168) (hE.w tn_2_2 rfl) hce hcv hcl ?_
  refine W.eq (g2 := F0 m 7 ls [.ref q9]) rfl ?_
  refine lv_astore_n (lv' := [(1, .ref q9), (0, .ref h)]) hx hb dL_cases_7 rfl hl (by decide) rfl (fun ls hl => ?_)
  refine lv_iconst (v := 1) hx hb dL_cases_8 (by decide) ?_
  exact ck_iret () hx hb hr rfl hlocks rfl (hP.sub [] rfl) (hK.sub [] rfl) (hD.sub [] (by decide) rfl) hS (by decide) (by decide) dL_cases_9
set_option maxHeartbeats 4000000 in
set_option maxRecDepth 100000 in
theorem l_suppose (l : Launch) (hl0 : l.stackTraces = false) (D : va_G) (sz : Nat) (h fo mn df bl tr wk sd : Nat) (ou : Nat) (cJ : ClassId) (fl : Nat → Int64) (x : Int32) : cM l yL_suppose (.codeWith yL_suppose cL_suppose 4 (some .int) [(0, 9, 12, 13), (0, 9, 15, 15)]) 28 900 1 6 [.ref h, .int x, .ref ou] D [(cJ, .long)] [(h, .inr (4, [.ref fo, .int 0, .int 0, .ref mn, .ref df, .int 0, .ref bl, .int 0, .int 0, .int 1, .int 0, .ref tr, .ref wk, .ref sd])), (ou, .inl (cJ, 1, .inr (.inl fl)))] sz (S := Unit) (fun v _ => v = some (.int 1)) (fun _ => []) (fun _ => []) := by
  refine cM_ofW (by decide) (Nat.le_of_ble_eq_true rfl) ?_
  intro p e s m below meth c ls hF hsz hP hK hD hE hZ hA hl
  obtain ⟨hx, hb, hr, hml, hown, hlocks, hnm, htb, hts⟩ := hF
  have hown : s.vm.findClass RL = some m.cls := hown
  have hl : lv_has ls 4 [(0, .ref h), (1, .int x), (2, .ref ou)] := hl
  have hS : va_S (va_A [(h, .inr (4, [.ref fo, .int 0, .int 0, .ref mn, .ref df, .int 0, .ref bl, .int 0, .int 0, .int 1, .int 0, .ref tr, .ref wk, .ref sd])), (ou, .inl (cJ, 1, .inr (.inl fl)))] sz) s.heap s.heap [] := va_S.rf
  refine lv_aload_n hx hb dL_suppose_0 rfl (lv_at hl 2 rfl) ?_
  refine lv_iconst (v := 0) hx hb dL_suppose_1 (by decide) ?_
  refine lv_aload_n hx hb dL_suppose_2 rfl (lv_at hl 0 rfl) ?_
  refine lv_iload_n hx hb dL_suppose_3 rfl (lv_at hl 1 rfl) ?_
  refine cx_run (wr := [(ou, .inl (cJ, 1, .inr (.inl fl)))]) (vx_runV (C := RX5) (As := [.int x]) (rest := [.int 0, .ref ou]) ⟨hx, hb, hml, hown, hts⟩ (c_suppose l hl0 D s.heap.size h fo mn df bl tr wk sd x) (cw_V (n := 1) hts tw_3_158 tw_3_159 tw_3_160 tw_1_1 tw_3_161 (by decide +kernel) ⟨by decide, by decide⟩) ⟨pre.blind, va_recv (q := (RX5, TX5, 14)) hK hP (ci := 4) (q0 := 0) rfl rfl, fun U hU hW => ⟨rfl, pre.of (wc := [(h, .inr (4, [.ref fo, .int 0, .int 0, .ref mn, .ref df, .int 0, .ref bl, .int 0, .int 0, .int 1, .int 0, .ref tr, .ref wk, .ref sd]))]) (tysc := []) (tk := []) hP hD hK hS hA hE hZ [0] (by decide) rfl rfl rfl U hU hW⟩⟩ rfl rfl hl.1 rfl (lv_room (Nat.le_of_ble_eq_true rfl)) dL_suppose_4 ⟨by decide, by decide⟩) hP hD hK hS hA [0] [1] rfl rfl (by decide) (by decide) (fun E ce q9 H locs hxE hP hD hS hce hcv hcl => ?_) (fun v u H locs hw _ _ _ _ => False.elim hw)
  subst hxE
  refine vx_catch (own := RL) (name := nIAE) hown [] ⟨0, 9, 12, 13⟩ [⟨0, 9, 15, 15⟩] (by rw [htb]; rfl) (fun z hz => nomatch hz) (by decide) (by decide) (hts _ tw_1_167) (hE.w tn_1_175 rfl) hce hcv hcl ?_
  refine W.eq (g2 := F0 m 12 ls [.ref q9]) rfl ?_
  refine lv_astore_n (lv' := [(3, .ref q9), (0, .ref h), (1, .int x), (2, .ref ou)]) hx hb dL_suppose_12 rfl hl (by decide) rfl (fun ls hl => ?_)
  refine lv_iconst (v := 1) hx hb dL_suppose_13 (by decide) ?_
  exact ck_iret () hx hb hr rfl hlocks rfl (hP.sub [] rfl) (hK.sub [] rfl) (hD.sub [] (by decide) rfl) hS (by decide) (by decide) dL_suppose_14
set_option maxHeartbeats 4000000 in
set_option maxRecDepth 100000 in
theorem l_end (l : Launch) (hl0 : l.stackTraces = false) (D : va_G) (sz : Nat) (h fo mn df bl tr wk sd : Nat) (ou : Nat) (cJ : ClassId) (fl : Nat → Int64) : cM l yL_end (.codeWith yL_end cL_end 3 (some .int) [(0, 8, 11, 15)]) 28 900 1 6 [.ref h, .ref ou] D [(cJ, .long)] [(h, .inr (4, [.ref fo, .int 0, .int 0, .ref mn, .ref df, .int 0, .ref bl, .int 0, .int 0, .int 1, .int 0, .ref tr, .ref wk, .ref sd])), (ou, .inl (cJ, 1, .inr (.inl fl)))] sz (S := Unit) (fun v _ => v = some (.int 1)) (fun _ => []) (fun _ => []) := by
  refine cM_ofW (by decide) (Nat.le_of_ble_eq_true rfl) ?_
  intro p e s m below meth c ls hF hsz hP hK hD hE hZ hA hl
  obtain ⟨hx, hb, hr, hml, hown, hlocks, hnm, htb, hts⟩ := hF
  have hown : s.vm.findClass RL = some m.cls := hown
  have hl : lv_has ls 3 [(0, .ref h), (1, .ref ou)] := hl
  have hS : va_S (va_A [(h, .inr (4, [.ref fo, .int 0, .int 0, .ref mn, .ref df, .int 0, .ref bl, .int 0, .int 0, .int 1, .int 0, .ref tr, .ref wk, .ref sd])), (ou, .inl (cJ, 1, .inr (.inl fl)))] sz) s.heap s.heap [] := va_S.rf
  refine lv_aload_n hx hb dL_end_0 rfl (lv_at hl 1 rfl) ?_
  refine lv_iconst (v := 0) hx hb dL_end_1 (by decide) ?_
  refine lv_aload_n hx hb dL_end_2 rfl (lv_at hl 0 rfl) ?_
  refine cx_run (wr := [(ou, .inl (cJ, 1, .inr (.inl fl)))]) (vx_runV (C := RX5) (As := []) (rest := [.int 0, .ref ou]) ⟨hx, hb, hml, hown, hts⟩ (c_end l hl0 D s.heap.size h fo mn df bl tr wk sd) (cw_V (n := 0) hts tw_3_170 tw_3_171 tw_3_172 tw_1_1 tw_3_173 (by decide +kernel) ⟨by decide, by decide⟩) ⟨pre.blind, va_recv (q := (RX5, TX5, 14)) hK hP (ci := 4) (q0 := 0) rfl rfl, fun U hU hW => ⟨rfl, pre.of (wc := [(h, .inr (4, [.ref fo, .int 0, .int 0, .ref mn, .ref df, .int 0, .ref bl, .int 0, .int 0, .int 1, .int 0, .ref tr, .ref wk, .ref sd]))]) (tysc := []) (tk := []) hP hD hK hS hA hE hZ [0] (by decide) rfl rfl rfl U hU hW⟩⟩ rfl rfl hl.1 rfl (lv_room (Nat.le_of_ble_eq_true rfl)) dL_end_3 ⟨by decide, by decide⟩) hP hD hK hS hA [0] [1] rfl rfl (by decide) (by decide) (fun E ce q9 H locs hxE hP hD hS hce hcv hcl => ?_) (fun v u H locs hw _ _ _ _ => False.elim hw)
  subst hxE
  refine vx_catch (own := RL) (name := nISE) hown [] ⟨0, 8, 11, 15⟩ [] (by rw [htb]; rfl) (fun z hz => nomatch hz) (by decide) (by decide) (hts _ tw_1_168) (hE.w tn_2_2 rfl) hce hcv hcl ?_
  refine W.eq (g2 := F0 m 11 ls [.ref q9]) rfl ?_
  refine lv_astore_n (lv' := [(2, .ref q9), (0, .ref h), (1, .ref ou)]) hx hb dL_end_11 rfl hl (by decide) rfl (fun ls hl => ?_)
  refine lv_iconst (v := 1) hx hb dL_end_12 (by decide) ?_
  exact ck_iret () hx hb hr rfl hlocks rfl (hP.sub [] rfl) (hK.sub [] rfl) (hD.sub [] (by decide) rfl) hS (by decide) (by decide) dL_end_13
set_option maxHeartbeats 4000000 in
set_option maxRecDepth 100000 in
theorem l_thesis (l : Launch) (hl0 : l.stackTraces = false) (D : va_G) (sz : Nat) (h fo mn df bl tr wk sd : Nat) (ou : Nat) (cJ : ClassId) (fl : Nat → Int64) : cM l yL_thesis (.codeWith yL_thesis cL_thesis 3 (some .int) [(0, 8, 11, 15)]) 28 900 1 6 [.ref h, .ref ou] D [(cJ, .long)] [(h, .inr (4, [.ref fo, .int 0, .int 0, .ref mn, .ref df, .int 0, .ref bl, .int 0, .int 0, .int 1, .int 0, .ref tr, .ref wk, .ref sd])), (ou, .inl (cJ, 1, .inr (.inl fl)))] sz (S := Unit) (fun v _ => v = some (.int 1)) (fun _ => []) (fun _ => []) := by
  refine cM_ofW (by decide) (Nat.le_of_ble_eq_true rfl) ?_
  intro p e s m below meth c ls hF hsz hP hK hD hE hZ hA hl
  obtain ⟨hx, hb, hr, hml, hown, hlocks, hnm, htb, hts⟩ := hF
  have hown : s.vm.findClass RL = some m.cls := hown
  have hl : lv_has ls 3 [(0, .ref h), (1, .ref ou)] := hl
  have hS : va_S (va_A [(h, .inr (4, [.ref fo, .int 0, .int 0, .ref mn, .ref df, .int 0, .ref bl, .int 0, .int 0, .int 1, .int 0, .ref tr, .ref wk, .ref sd])), (ou, .inl (cJ, 1, .inr (.inl fl)))] sz) s.heap s.heap [] := va_S.rf
  refine lv_aload_n hx hb dL_thesis_0 rfl (lv_at hl 1 rfl) ?_
  refine lv_iconst (v := 0) hx hb dL_thesis_1 (by decide) ?_
  refine lv_aload_n hx hb dL_thesis_2 rfl (lv_at hl 0 rfl) ?_
  refine cx_run (wr := [(ou, .inl (cJ, 1, .inr (.inl fl)))]) (vx_runV (C := RX5) (As := []) (rest := [.int 0, .ref ou]) ⟨hx, hb, hml, hown, hts⟩ (c_thesis l hl0 D s.heap.size h fo mn df bl tr wk sd) (cw_V (n := 0) hts tw_3_195 tw_3_196 tw_3_197 tw_1_1 tw_3_198 (by decide +kernel) ⟨by decide, by decide⟩) ⟨pre.blind, va_recv (q := (RX5, TX5, 14)) hK hP (ci := 4) (q0 := 0) rfl rfl, fun U hU hW => ⟨rfl, pre.of (wc := [(h, .inr (4, [.ref fo, .int 0, .int 0, .ref mn, .ref df, .int 0, .ref bl, .int 0, .int 0, .int 1, .int 0, .ref tr, .ref wk, .ref sd]))]) (tysc := []) (tk := []) hP hD hK hS hA hE hZ [0] (by decide) rfl rfl rfl U hU hW⟩⟩ rfl rfl hl.1 rfl (lv_room (Nat.le_of_ble_eq_true rfl)) dL_thesis_3 ⟨by decide, by decide⟩) hP hD hK hS hA [0] [1] rfl rfl (by decide) (by decide) (fun E ce q9 H locs hxE hP hD hS hce hcv hcl => ?_) (fun v u H locs hw _ _ _ _ => False.elim hw)
  subst hxE
  refine vx_catch (own := RL) (name := nISE) hown [] ⟨0, 8, 11, 15⟩ [] (by rw [htb]; rfl) (fun z hz => nomatch hz) (by decide) (by decide) (hts _ tw_1_168) (hE.w tn_2_2 rfl) hce hcv hcl ?_
  refine W.eq (g2 := F0 m 11 ls [.ref q9]) rfl ?_
  refine lv_astore_n (lv' := [(2, .ref q9), (0, .ref h), (1, .ref ou)]) hx hb dL_thesis_11 rfl hl (by decide) rfl (fun ls hl => ?_)
  refine lv_iconst (v := 1) hx hb dL_thesis_12 (by decide) ?_
  exact ck_iret () hx hb hr rfl hlocks rfl (hP.sub [] rfl) (hK.sub [] rfl) (hD.sub [] (by decide) rfl) hS (by decide) (by decide) dL_thesis_13
set_option maxHeartbeats 4000000 in
set_option maxRecDepth 100000 in
theorem l_ways (l : Launch) (hl0 : l.stackTraces = false) (D : va_G) (sz : Nat) (h fo mn df bl tr wk sd : Nat) (ou : Nat) (cJ : ClassId) (fl : Nat → Int64) : cM l yL_ways (.codeWith yL_ways cL_ways 3 (some .int) [(0, 8, 11, 15)]) 28 900 1 6 [.ref h, .ref ou] D [(cJ, .long)] [(h, .inr (4, [.ref fo, .int 0, .int 0, .ref mn, .ref df, .int 0, .ref bl, .int 0, .int 0, .int 1, .int 0, .ref tr, .ref wk, .ref sd])), (ou, .inl (cJ, 1, .inr (.inl fl)))] sz (S := Unit) (fun v _ => v = some (.int 1)) (fun _ => []) (fun _ => []) := by
  refine cM_ofW (by decide) (Nat.le_of_ble_eq_true rfl) ?_
  intro p e s m below meth c ls hF hsz hP hK hD hE hZ hA hl
  obtain ⟨hx, hb, hr, hml, hown, hlocks, hnm, htb, hts⟩ := hF
  have hown : s.vm.findClass RL = some m.cls := hown
  have hl : lv_has ls 3 [(0, .ref h), (1, .ref ou)] := hl
  have hS : va_S (va_A [(h, .inr (4, [.ref fo, .int 0, .int 0, .ref mn, .ref df, .int 0, .ref bl, .int 0, .int 0, .int 1, .int 0, .ref tr, .ref wk, .ref sd])), (ou, .inl (cJ, 1, .inr (.inl fl)))] sz) s.heap s.heap [] := va_S.rf
  refine lv_aload_n hx hb dL_ways_0 rfl (lv_at hl 1 rfl) ?_
  refine lv_iconst (v := 0) hx hb dL_ways_1 (by decide) ?_
  refine lv_aload_n hx hb dL_ways_2 rfl (lv_at hl 0 rfl) ?_
  refine cx_run (wr := [(ou, .inl (cJ, 1, .inr (.inl fl)))]) (vx_runV (C := RX5) (As := []) (rest := [.int 0, .ref ou]) ⟨hx, hb, hml, hown, hts⟩ (c_ways l hl0 D s.heap.size h fo mn df bl tr wk sd) (cw_V (n := 0) hts tw_3_202 tw_3_203 tw_3_204 tw_1_1 tw_3_205 (by decide +kernel) ⟨by decide, by decide⟩) ⟨pre.blind, va_recv (q := (RX5, TX5, 14)) hK hP (ci := 4) (q0 := 0) rfl rfl, fun U hU hW => ⟨rfl, pre.of (wc := [(h, .inr (4, [.ref fo, .int 0, .int 0, .ref mn, .ref df, .int 0, .ref bl, .int 0, .int 0, .int 1, .int 0, .ref tr, .ref wk, .ref sd]))]) (tysc := []) (tk := []) hP hD hK hS hA hE hZ [0] (by decide) rfl rfl rfl U hU hW⟩⟩ rfl rfl hl.1 rfl (lv_room (Nat.le_of_ble_eq_true rfl)) dL_ways_3 ⟨by decide, by decide⟩) hP hD hK hS hA [0] [1] rfl rfl (by decide) (by decide) (fun E ce q9 H locs hxE hP hD hS hce hcv hcl => ?_) (fun v u H locs hw _ _ _ _ => False.elim hw)
  subst hxE
  refine vx_catch (own := RL) (name := nISE) hown [] ⟨0, 8, 11, 15⟩ [] (by rw [htb]; rfl) (fun z hz => nomatch hz) (by decide) (by decide) (hts _ tw_1_168) (hE.w tn_2_2 rfl) hce hcv hcl ?_
  refine W.eq (g2 := F0 m 11 ls [.ref q9]) rfl ?_
  refine lv_astore_n (lv' := [(2, .ref q9), (0, .ref h), (1, .ref ou)]) hx hb dL_ways_11 rfl hl (by decide) rfl (fun ls hl => ?_)
  refine lv_iconst (v := 1) hx hb dL_ways_12 (by decide) ?_
  exact ck_iret () hx hb hr rfl hlocks rfl (hP.sub [] rfl) (hK.sub [] rfl) (hD.sub [] (by decide) rfl) hS (by decide) (by decide) dL_ways_13
set_option maxHeartbeats 4000000 in
set_option maxRecDepth 100000 in
theorem l_about (l : Launch) (hl0 : l.stackTraces = false) (D : va_G) (sz : Nat) (h fo mn df bl tr wk sd : Nat) (ou : Nat) (cJ : ClassId) (fl : Nat → Int64) (x y : Int32) : cM l yL_about (.codeWith yL_about cL_about 5 (some .int) [(0, 10, 13, 13)]) 28 900 1 6 [.ref h, .int x, .int y, .ref ou] D [(cJ, .long)] [(h, .inr (4, [.ref fo, .int 0, .int 0, .ref mn, .ref df, .int 0, .ref bl, .int 0, .int 0, .int 1, .int 0, .ref tr, .ref wk, .ref sd])), (ou, .inl (cJ, 1, .inr (.inl fl)))] sz (S := Unit) (fun v _ => v = some (.int 1)) (fun _ => []) (fun _ => []) := by
  refine cM_ofW (by decide) (Nat.le_of_ble_eq_true rfl) ?_
  intro p e s m below meth c ls hF hsz hP hK hD hE hZ hA hl
  obtain ⟨hx, hb, hr, hml, hown, hlocks, hnm, htb, hts⟩ := hF
  have hown : s.vm.findClass RL = some m.cls := hown
  have hl : lv_has ls 5 [(0, .ref h), (1, .int x), (2, .int y), (3, .ref ou)] := hl
  have hS : va_S (va_A [(h, .inr (4, [.ref fo, .int 0, .int 0, .ref mn, .ref df, .int 0, .ref bl, .int 0, .int 0, .int 1, .int 0, .ref tr, .ref wk, .ref sd])), (ou, .inl (cJ, 1, .inr (.inl fl)))] sz) s.heap s.heap [] := va_S.rf
  refine lv_aload_n hx hb dL_about_0 rfl (lv_at hl 3 rfl) ?_
  refine lv_iconst (v := 0) hx hb dL_about_1 (by decide) ?_
  refine lv_aload_n hx hb dL_about_2 rfl (lv_at hl 0 rfl) ?_
  refine lv_iload_n hx hb dL_about_3 rfl (lv_at hl 1 rfl) ?_
  refine lv_iload_n hx hb dL_about_4 rfl (lv_at hl 2 rfl) ?_
  refine cx_run (wr := [(ou, .inl (cJ, 1, .inr (.inl fl)))]) (vx_runV (C := RX5) (As := [.int x, .int y]) (rest := [.int 0, .ref ou]) ⟨hx, hb, hml, hown, hts⟩ (c_about l hl0 D s.heap.size h fo mn df bl tr wk sd x y) (cw_V (n := 2) hts tw_3_209 tw_3_210 tw_3_211 tw_1_1 tw_3_212 (by decide +kernel) ⟨by decide, by decide⟩) ⟨pre.blind, va_recv (q := (RX5, TX5, 14)) hK hP (ci := 4) (q0 := 0) rfl rfl, fun U hU hW => ⟨rfl, pre.of (wc := [(h, .inr (4, [.ref fo, .int 0, .int 0, .ref mn, .ref df, .int 0, .ref bl, .int 0, .int 0, .int 1, .int 0, .ref tr, .ref wk, .ref sd]))]) (tysc := []) (tk := []) hP hD hK hS hA hE hZ [0] (by decide) rfl rfl rfl U hU hW⟩⟩ rfl rfl hl.1 rfl (lv_room (Nat.le_of_ble_eq_true rfl)) dL_about_5 ⟨by decide, by decide⟩) hP hD hK hS hA [0] [1] rfl rfl (by decide) (by decide) (fun E ce q9 H locs hxE hP hD hS hce hcv hcl => ?_) (fun v u H locs hw _ _ _ _ => False.elim hw)
  subst hxE
  refine vx_catch (own := RL) (name := nIAE) hown [] ⟨0, 10, 13, 13⟩ [] (by rw [htb]; rfl) (fun z hz => nomatch hz) (by decide) (by decide) (hts _ tw_1_167) (hE.w tn_1_175 rfl) hce hcv hcl ?_
  refine W.eq (g2 := F0 m 13 ls [.ref q9]) rfl ?_
  refine lv_astore (lv' := [(4, .ref q9), (0, .ref h), (1, .int x), (2, .int y), (3, .ref ou)]) hx hb dL_about_13 hl (by decide) rfl (fun ls hl => ?_)
  refine lv_iconst (v := 1) hx hb dL_about_15 (by decide) ?_
  exact ck_iret () hx hb hr rfl hlocks rfl (hP.sub [] rfl) (hK.sub [] rfl) (hD.sub [] (by decide) rfl) hS (by decide) (by decide) dL_about_16
set_option maxHeartbeats 4000000 in
set_option maxRecDepth 100000 in
theorem l_part (l : Launch) (hl0 : l.stackTraces = false) (D : va_G) (sz : Nat) (h fo mn df bl tr wk sd : Nat) (ou : Nat) (cJ : ClassId) (fl : Nat → Int64) (x y : Int32) : cM l yL_part (.codeWith yL_part cL_part 5 (some .int) [(0, 10, 13, 13), (0, 10, 17, 15)]) 28 900 1 6 [.ref h, .int x, .int y, .ref ou] D [(cJ, .long)] [(h, .inr (4, [.ref fo, .int 0, .int 0, .ref mn, .ref df, .int 0, .ref bl, .int 0, .int 0, .int 1, .int 0, .ref tr, .ref wk, .ref sd])), (ou, .inl (cJ, 1, .inr (.inl fl)))] sz (S := Unit) (fun v _ => v = some (.int 1)) (fun _ => []) (fun _ => []) := by
  refine cM_ofW (by decide) (Nat.le_of_ble_eq_true rfl) ?_
  intro p e s m below meth c ls hF hsz hP hK hD hE hZ hA hl
  obtain ⟨hx, hb, hr, hml, hown, hlocks, hnm, htb, hts⟩ := hF
  have hown : s.vm.findClass RL = some m.cls := hown
  have hl : lv_has ls 5 [(0, .ref h), (1, .int x), (2, .int y), (3, .ref ou)] := hl
  have hS : va_S (va_A [(h, .inr (4, [.ref fo, .int 0, .int 0, .ref mn, .ref df, .int 0, .ref bl, .int 0, .int 0, .int 1, .int 0, .ref tr, .ref wk, .ref sd])), (ou, .inl (cJ, 1, .inr (.inl fl)))] sz) s.heap s.heap [] := va_S.rf
  refine lv_aload_n hx hb dL_part_0 rfl (lv_at hl 3 rfl) ?_
  refine lv_iconst (v := 0) hx hb dL_part_1 (by decide) ?_
  refine lv_aload_n hx hb dL_part_2 rfl (lv_at hl 0 rfl) ?_
  refine lv_iload_n hx hb dL_part_3 rfl (lv_at hl 1 rfl) ?_
  refine lv_iload_n hx hb dL_part_4 rfl (lv_at hl 2 rfl) ?_
  refine cx_run (wr := [(ou, .inl (cJ, 1, .inr (.inl fl)))]) (vx_runV (C := RX5) (As := [.int x, .int y]) (rest := [.int 0, .ref ou]) ⟨hx, hb, hml, hown, hts⟩ (c_part l hl0 D s.heap.size h fo mn df bl tr wk sd x y) (cw_V (n := 2) hts tw_3_224 tw_3_225 tw_3_226 tw_1_1 tw_3_227 (by decide +kernel) ⟨by decide, by decide⟩) ⟨pre.blind, va_recv (q := (RX5, TX5, 14)) hK hP (ci := 4) (q0 := 0) rfl rfl, fun U hU hW => ⟨rfl, pre.of (wc := [(h, .inr (4, [.ref fo, .int 0, .int 0, .ref mn, .ref df, .int 0, .ref bl, .int 0, .int 0, .int 1, .int 0, .ref tr, .ref wk, .ref sd]))]) (tysc := []) (tk := []) hP hD hK hS hA hE hZ [0] (by decide) rfl rfl rfl U hU hW⟩⟩ rfl rfl hl.1 rfl (lv_room (Nat.le_of_ble_eq_true rfl)) dL_part_5 ⟨by decide, by decide⟩) hP hD hK hS hA [0] [1] rfl rfl (by decide) (by decide) (fun E ce q9 H locs hxE hP hD hS hce hcv hcl => ?_) (fun v u H locs hw _ _ _ _ => False.elim hw)
  subst hxE
  refine vx_catch (own := RL) (name := nIAE) hown [] ⟨0, 10, 13, 13⟩ [⟨0, 10, 17, 15⟩] (by rw [htb]; rfl) (fun z hz => nomatch hz) (by decide) (by decide) (hts _ tw_1_167) (hE.w tn_1_175 rfl) hce hcv hcl ?_
  refine W.eq (g2 := F0 m 13 ls [.ref q9]) rfl ?_
  refine lv_astore (lv' := [(4, .ref q9), (0, .ref h), (1, .int x), (2, .int y), (3, .ref ou)]) hx hb dL_part_13 hl (by decide) rfl (fun ls hl => ?_)
  refine lv_iconst (v := 1) hx hb dL_part_15 (by decide) ?_
  exact ck_iret () hx hb hr rfl hlocks rfl (hP.sub [] rfl) (hK.sub [] rfl) (hD.sub [] (by decide) rfl) hS (by decide) (by decide) dL_part_16
set_option maxHeartbeats 4000000 in
set_option maxRecDepth 100000 in
theorem l_alike (l : Launch) (hl0 : l.stackTraces = false) (D : va_G) (sz : Nat) (h fo mn df bl tr wk sd : Nat) (ou : Nat) (cJ : ClassId) (fl : Nat → Int64) (x y : Int32) : cM l yL_alike (.codeWith yL_alike cL_alike 5 (some .int) [(0, 17, 20, 13)]) 28 900 1 6 [.ref h, .int x, .int y, .ref ou] D [(cJ, .long)] [(h, .inr (4, [.ref fo, .int 0, .int 0, .ref mn, .ref df, .int 0, .ref bl, .int 0, .int 0, .int 1, .int 0, .ref tr, .ref wk, .ref sd])), (ou, .inl (cJ, 1, .inr (.inl fl)))] sz (S := Unit) (fun v _ => v = some (.int 1)) (fun _ => []) (fun _ => []) := by
  refine cM_ofW (by decide) (Nat.le_of_ble_eq_true rfl) ?_
  intro p e s m below meth c ls hF hsz hP hK hD hE hZ hA hl
  obtain ⟨hx, hb, hr, hml, hown, hlocks, hnm, htb, hts⟩ := hF
  have hown : s.vm.findClass RL = some m.cls := hown
  have hl : lv_has ls 5 [(0, .ref h), (1, .int x), (2, .int y), (3, .ref ou)] := hl
  have hS : va_S (va_A [(h, .inr (4, [.ref fo, .int 0, .int 0, .ref mn, .ref df, .int 0, .ref bl, .int 0, .int 0, .int 1, .int 0, .ref tr, .ref wk, .ref sd])), (ou, .inl (cJ, 1, .inr (.inl fl)))] sz) s.heap s.heap [] := va_S.rf
  refine lv_aload_n hx hb dL_alike_0 rfl (lv_at hl 3 rfl) ?_
  refine lv_iconst (v := 0) hx hb dL_alike_1 (by decide) ?_
  refine lv_aload_n hx hb dL_alike_2 rfl (lv_at hl 0 rfl) ?_
  refine lv_iload_n hx hb dL_alike_3 rfl (lv_at hl 1 rfl) ?_
  refine lv_iload_n hx hb dL_alike_4 rfl (lv_at hl 2 rfl) ?_
  refine cx_run (wr := [(ou, .inl (cJ, 1, .inr (.inl fl)))]) (vx_runV (C := RX5) (As := [.int x, .int y]) (rest := [.int 0, .ref ou]) ⟨hx, hb, hml, hown, hts⟩ (c_alike l hl0 D s.heap.size h fo mn df bl tr wk sd x y) (cw_V (n := 2) hts tw_4_4 tw_4_5 tw_4_6 tw_1_1 tw_4_7 (by decide +kernel) ⟨by decide, by decide⟩) ⟨pre.blind, va_recv (q := (RX5, TX5, 14)) hK hP (ci := 4) (q0 := 0) rfl rfl, fun U hU hW => ⟨rfl, pre.of (wc := [(h, .inr (4, [.ref fo, .int 0, .int 0, .ref mn, .ref df, .int 0, .ref bl, .int 0, .int 0, .int 1, .int 0, .ref tr, .ref wk, .ref sd]))]) (tysc := []) (tk := []) hP hD hK hS hA hE hZ [0] (by decide) rfl rfl rfl U hU hW⟩⟩ rfl rfl hl.1 rfl (lv_room (Nat.le_of_ble_eq_true rfl)) dL_alike_5 ⟨by decide, by decide⟩) hP hD hK hS hA [0] [1] rfl rfl (by decide) (by decide) (fun E ce q9 H locs hxE hP hD hS hce hcv hcl => ?_) (fun v u H locs hw _ _ _ _ => False.elim hw)
  subst hxE
  refine vx_catch (own := RL) (name := nIAE) hown [] ⟨0, 17, 20, 13⟩ [] (by rw [htb]; rfl) (fun z hz => nomatch hz) (by decide) (by decide) (hts _ tw_1_167) (hE.w tn_1_175 rfl) hce hcv hcl ?_
  refine W.eq (g2 := F0 m 20 ls [.ref q9]) rfl ?_
  refine lv_astore (lv' := [(4, .ref q9), (0, .ref h), (1, .int x), (2, .int y), (3, .ref ou)]) hx hb dL_alike_20 hl (by decide) rfl (fun ls hl => ?_)
  refine lv_iconst (v := 1) hx hb dL_alike_22 (by decide) ?_
  exact ck_iret () hx hb hr rfl hlocks rfl (hP.sub [] rfl) (hK.sub [] rfl) (hD.sub [] (by decide) rfl) hS (by decide) (by decide) dL_alike_23
set_option maxHeartbeats 4000000 in
set_option maxRecDepth 100000 in
theorem l_predicateY (l : Launch) (hl0 : l.stackTraces = false) (D : va_G) (sz : Nat) (h fo mn df bl tr wk sd : Nat) (ou : Nat) (cJ : ClassId) (fl : Nat → Int64) (cI : ClassId) (x : Int32) (hg : (¬ x < 0 ∧ x ≤ 2)) : cM l yL_predicate (.codeWith yL_predicate cL_predicate 4 (some .int) [(0, 9, 12, 13), (0, 9, 15, 15)]) 28 900 1 6 [.ref h, .int x, .ref ou] D [(cI, .int), (cJ, .long)] [(h, .inr (4, [.ref fo, .int 0, .int 0, .ref mn, .ref df, .int 0, .ref bl, .int 0, .int 0, .int 1, .int 0, .ref tr, .ref wk, .ref sd])), (mn, .inl (cI, 30, .inl (fun _ => 0))), (ou, .inl (cJ, 1, .inr (.inl fl)))] sz (S := Unit) (fun v _ => v = some (.int 0)) (fun _ => [(ou, .inl (cJ, 1, .inr (.inl (vp_updL fl ((0 : Int32).toNatClampNeg) 0))))]) (fun _ => [(cJ, .long)]) := by
  refine cM_ofW (by decide) (Nat.le_of_ble_eq_true rfl) ?_
  intro p e s m below meth c ls hF hsz hP hK hD hE hZ hA hl
  obtain ⟨hx, hb, hr, hml, hown, hlocks, hnm, htb, hts⟩ := hF
  have hown : s.vm.findClass RL = some m.cls := hown
  have hl : lv_has ls 4 [(0, .ref h), (1, .int x), (2, .ref ou)] := hl
  have hS : va_S (va_A [(h, .inr (4, [.ref fo, .int 0, .int 0, .ref mn, .ref df, .int 0, .ref bl, .int 0, .int 0, .int 1, .int 0, .ref tr, .ref wk, .ref sd])), (mn, .inl (cI, 30, .inl (fun _ => 0))), (ou, .inl (cJ, 1, .inr (.inl fl)))] sz) s.heap s.heap [] := va_S.rf
  refine lv_aload_n hx hb dL_predicate_0 rfl (lv_at hl 2 rfl) ?_
  refine lv_iconst (v := 0) hx hb dL_predicate_1 (by decide) ?_
  refine lv_aload_n hx hb dL_predicate_2 rfl (lv_at hl 0 rfl) ?_
  refine lv_iload_n hx hb dL_predicate_3 rfl (lv_at hl 1 rfl) ?_
  refine cx_run (wr := [(ou, .inl (cJ, 1, .inr (.inl fl)))]) (vx_runV (C := RX5) (As := [.int x]) (rest := [.int 0, .ref ou]) ⟨hx, hb, hml, hown, hts⟩ (c_predicate l hl0 D s.heap.size h fo mn df bl tr wk sd cI x) (cw_V (n := 1) hts tw_1_169 tw_1_170 tw_1_171 tw_1_1 tw_1_172 (by decide +kernel) ⟨by decide, by decide⟩) ⟨pre.blind, va_recv (q := (RX5, TX5, 14)) hK hP (ci := 4) (q0 := 0) rfl rfl, fun U hU hW => ⟨rfl, pre.of (wc := [(h, .inr (4, [.ref fo, .int 0, .int 0, .ref mn, .ref df, .int 0, .ref bl, .int 0, .int 0, .int 1, .int 0, .ref tr, .ref wk, .ref sd])), (mn, .inl (cI, 30, .inl (fun _ => 0)))]) (tysc := [(cI, .int)]) (tk := [0]) hP hD hK hS hA hE hZ [0, 1] (by decide) rfl rfl rfl U hU hW⟩⟩ rfl rfl hl.1 rfl (lv_room (Nat.le_of_ble_eq_true rfl)) dL_predicate_4 ⟨by decide, by decide⟩) hP hD hK hS hA [0, 1] [2] rfl rfl (by decide) (by decide) (fun E ce q9 H locs hxE hP hD hS hce hcv hcl => ?_) (fun v u H locs hw hP hD hK9 hS => ?_)
  · exact absurd hg hxE.2
  · have hw : v = some (.int 0) ∧ (¬ x < 0 ∧ x ≤ 2) := hw
    obtain ⟨rfl, hq_1⟩ := hw
    have hP : va_P D vwCl [(ou, .inl (cJ, 1, .inr (.inl fl)))] H := hP
    have hD : va_D _ [(ou, .inl (cJ, 1, .inr (.inl fl)))] := hD
    refine W.eq (g2 := F0 m 7 ls [.int 0, .int 0, .ref ou]) rfl ?_
    refine lv_i2l (v := 0) hx hb dL_predicate_7 (by decide) ?_
    refine va_last hx hb hK hP hD hS 0 1 rfl rfl (vi (by decide)) dL_predicate_8 (fun H locs hP hD hS => ?_)
    have hP : va_P D vwCl [(ou, .inl (cJ, 1, .inr (.inl (vp_updL fl ((0 : Int32).toNatClampNeg) 0))))] H := hP
    have hD : va_D _ [(ou, .inl (cJ, 1, .inr (.inl (vp_updL fl ((0 : Int32).toNatClampNeg) 0))))] := hD
    refine lv_goto (tgt := 18) hx hb dL_predicate_9 (by decide) ?_
    refine lv_iconst (v := 0) hx hb dL_predicate_18 (by decide) ?_
    exact ck_iret () hx hb hr rfl hlocks rfl (hP.sub [0] rfl) (hK.sub [1] rfl) (hD.sub [0] (by decide) rfl) hS (by decide) (by decide) dL_predicate_19
set_option maxHeartbeats 4000000 in
set_option maxRecDepth 100000 in
theorem l_predicateN (l : Launch) (hl0 : l.stackTraces = false) (D : va_G) (sz : Nat) (h fo mn df bl tr wk sd : Nat) (ou : Nat) (cJ : ClassId) (fl : Nat → Int64) (cI : ClassId) (x : Int32) (hn : ¬ (¬ x < 0 ∧ x ≤ 2)) : cM l yL_predicate (.codeWith yL_predicate cL_predicate 4 (some .int) [(0, 9, 12, 13), (0, 9, 15, 15)]) 28 900 1 6 [.ref h, .int x, .ref ou] D [(cI, .int), (cJ, .long)] [(h, .inr (4, [.ref fo, .int 0, .int 0, .ref mn, .ref df, .int 0, .ref bl, .int 0, .int 0, .int 1, .int 0, .ref tr, .ref wk, .ref sd])), (mn, .inl (cI, 30, .inl (fun _ => 0))), (ou, .inl (cJ, 1, .inr (.inl fl)))] sz (S := Unit) (fun v _ => v = some (.int 1)) (fun _ => []) (fun _ => []) := by
  refine cM_ofW (by decide) (Nat.le_of_ble_eq_true rfl) ?_
  intro p e s m below meth c ls hF hsz hP hK hD hE hZ hA hl
  obtain ⟨hx, hb, hr, hml, hown, hlocks, hnm, htb, hts⟩ := hF
  have hown : s.vm.findClass RL = some m.cls := hown
  have hl : lv_has ls 4 [(0, .ref h), (1, .int x), (2, .ref ou)] := hl
  have hS : va_S (va_A [(h, .inr (4, [.ref fo, .int 0, .int 0, .ref mn, .ref df, .int 0, .ref bl, .int 0, .int 0, .int 1, .int 0, .ref tr, .ref wk, .ref sd])), (mn, .inl (cI, 30, .inl (fun _ => 0))), (ou, .inl (cJ, 1, .inr (.inl fl)))] sz) s.heap s.heap [] := va_S.rf
  refine lv_aload_n hx hb dL_predicate_0 rfl (lv_at hl 2 rfl) ?_
  refine lv_iconst (v := 0) hx hb dL_predicate_1 (by decide) ?_
  refine lv_aload_n hx hb dL_predicate_2 rfl (lv_at hl 0 rfl) ?_
  refine lv_iload_n hx hb dL_predicate_3 rfl (lv_at hl 1 rfl) ?_
  refine cx_run (wr := [(ou, .inl (cJ, 1, .inr (.inl fl)))]) (vx_runV (C := RX5) (As := [.int x]) (rest := [.int 0, .ref ou]) ⟨hx, hb, hml, hown, hts⟩ (c_predicate l hl0 D s.heap.size h fo mn df bl tr wk sd cI x) (cw_V (n := 1) hts tw_1_169 tw_1_170 tw_1_171 tw_1_1 tw_1_172 (by decide +kernel) ⟨by decide, by decide⟩) ⟨pre.blind, va_recv (q := (RX5, TX5, 14)) hK hP (ci := 4) (q0 := 0) rfl rfl, fun U hU hW => ⟨rfl, pre.of (wc := [(h, .inr (4, [.ref fo, .int 0, .int 0, .ref mn, .ref df, .int 0, .ref bl, .int 0, .int 0, .int 1, .int 0, .ref tr, .ref wk, .ref sd])), (mn, .inl (cI, 30, .inl (fun _ => 0)))]) (tysc := [(cI, .int)]) (tk := [0]) hP hD hK hS hA hE hZ [0, 1] (by decide) rfl rfl rfl U hU hW⟩⟩ rfl rfl hl.1 rfl (lv_room (Nat.le_of_ble_eq_true rfl)) dL_predicate_4 ⟨by decide, by decide⟩) hP hD hK hS hA [0, 1] [2] rfl rfl (by decide) (by decide) (fun E ce q9 H locs hxE hP hD hS hce hcv hcl => ?_) (fun v u H locs hw hP hD hK9 hS => ?_)
  · obtain ⟨rfl, -⟩ := hxE
    refine vx_catch (own := RL) (name := nIAE) hown [] ⟨0, 9, 12, 13⟩ [⟨0, 9, 15, 15⟩] (by rw [htb]; rfl) (fun z hz => nomatch hz) (by decide) (by decide) (hts _ tw_1_167) (hE.w tn_1_175 rfl) hce hcv hcl ?_
    refine W.eq (g2 := F0 m 12 ls [.ref q9]) rfl ?_
    refine lv_astore_n (lv' := [(3, .ref q9), (0, .ref h), (1, .int x), (2, .ref ou)]) hx hb dL_predicate_12 rfl hl (by decide) rfl (fun ls hl => ?_)
    refine lv_iconst (v := 1) hx hb dL_predicate_13 (by decide) ?_
    exact ck_iret () hx hb hr rfl hlocks rfl (hP.sub [] rfl) (hK.sub [] rfl) (hD.sub [] (by decide) rfl) hS (by decide) (by decide) dL_predicate_14
  · have hw : v = some (.int 0) ∧ (¬ x < 0 ∧ x ≤ 2) := hw
    obtain ⟨rfl, hq_1⟩ := hw
    have hP : va_P D vwCl [(ou, .inl (cJ, 1, .inr (.inl fl)))] H := hP
    have hD : va_D _ [(ou, .inl (cJ, 1, .inr (.inl fl)))] := hD
    refine W.eq (g2 := F0 m 7 ls [.int 0, .int 0, .ref ou]) rfl ?_
    exact absurd hq_1 hn
set_option maxHeartbeats 4000000 in
set_option maxRecDepth 100000 in
theorem l_locusY (l : Launch) (hl0 : l.stackTraces = false) (D : va_G) (sz : Nat) (h fo mn df bl tr wk sd : Nat) (ou : Nat) (cJ : ClassId) (fl : Nat → Int64) (wc : Nat) (cI cF : ClassId) (f : Nat → Int32) (z1 z2 : Int32) (x : Int32) (hg : (¬ x < 0 ∧ x < 2)) : cM l yL_locus (.codeWith yL_locus cL_locus 4 (some .int) [(0, 9, 12, 13), (0, 9, 15, 15)]) 28 900 2 6 [.ref h, .int x, .ref ou] D [(cI, .int), (cF, .object RX2), (cJ, .long)] [(h, .inr (4, [.ref fo, .int 0, .int 0, .ref mn, .ref df, .int 0, .ref bl, .int 0, .int 0, .int 1, .int 0, .ref tr, .ref wk, .ref sd])), (wk, .inr (3, [.ref wc, .int z1, .int z2])), (wc, .inl (cI, 512, .inl f)), (fo, .inl (cF, 1000, .inr (.inr (.inr (.inr (fun _ => none)))))), (ou, .inl (cJ, 1, .inr (.inl fl)))] sz (S := Unit) (fun v _ => v = some (.int 0)) (fun _ => [(ou, .inl (cJ, 1, .inr (.inl (vp_updL fl ((0 : Int32).toNatClampNeg) 0))))]) (fun _ => [(cJ, .long)]) := by
  refine cM_ofW (by decide) (Nat.le_of_ble_eq_true rfl) ?_
  intro p e s m below meth c ls hF hsz hP hK hD hE hZ hA hl
  obtain ⟨hx, hb, hr, hml, hown, hlocks, hnm, htb, hts⟩ := hF
  have hown : s.vm.findClass RL = some m.cls := hown
  have hl : lv_has ls 4 [(0, .ref h), (1, .int x), (2, .ref ou)] := hl
  have hS : va_S (va_A [(h, .inr (4, [.ref fo, .int 0, .int 0, .ref mn, .ref df, .int 0, .ref bl, .int 0, .int 0, .int 1, .int 0, .ref tr, .ref wk, .ref sd])), (wk, .inr (3, [.ref wc, .int z1, .int z2])), (wc, .inl (cI, 512, .inl f)), (fo, .inl (cF, 1000, .inr (.inr (.inr (.inr (fun _ => none)))))), (ou, .inl (cJ, 1, .inr (.inl fl)))] sz) s.heap s.heap [] := va_S.rf
  refine lv_aload_n hx hb dL_locus_0 rfl (lv_at hl 2 rfl) ?_
  refine lv_iconst (v := 0) hx hb dL_locus_1 (by decide) ?_
  refine lv_aload_n hx hb dL_locus_2 rfl (lv_at hl 0 rfl) ?_
  refine lv_iload_n hx hb dL_locus_3 rfl (lv_at hl 1 rfl) ?_
  refine cx_run (wr := [(ou, .inl (cJ, 1, .inr (.inl fl)))]) (vx_runV (C := RX5) (As := [.int x]) (rest := [.int 0, .ref ou]) ⟨hx, hb, hml, hown, hts⟩ (c_locus l hl0 D s.heap.size h fo mn df bl tr wk sd wc cI cF f z1 z2 x) (cw_V (n := 1) hts tw_2_79 tw_2_80 tw_2_81 tw_1_1 tw_2_82 (by decide +kernel) ⟨by decide, by decide⟩) ⟨pre.blind, va_recv (q := (RX5, TX5, 14)) hK hP (ci := 4) (q0 := 0) rfl rfl, fun U hU hW => ⟨rfl, pre.of (wc := [(h, .inr (4, [.ref fo, .int 0, .int 0, .ref mn, .ref df, .int 0, .ref bl, .int 0, .int 0, .int 1, .int 0, .ref tr, .ref wk, .ref sd])), (wk, .inr (3, [.ref wc, .int z1, .int z2])), (wc, .inl (cI, 512, .inl f)), (fo, .inl (cF, 1000, .inr (.inr (.inr (.inr (fun _ => none))))))]) (tysc := [(cI, .int), (cF, .object RX2)]) (tk := [0, 1]) hP hD hK hS hA hE hZ [0, 1, 2, 3] (by decide) rfl rfl rfl U hU hW⟩⟩ rfl rfl hl.1 rfl (lv_room (Nat.le_of_ble_eq_true rfl)) dL_locus_4 ⟨by decide, by decide⟩) hP hD hK hS hA [0, 1, 2, 3] [4] rfl rfl (by decide) (by decide) (fun E ce q9 H locs hxE hP hD hS hce hcv hcl => ?_) (fun v u H locs hw hP hD hK9 hS => ?_)
  · exact absurd hg hxE.2
  · have hw : v = some (.int 0) ∧ (¬ x < 0 ∧ x < 2) := hw
    obtain ⟨rfl, hq_1⟩ := hw
    have hP : va_P D vwCl [(ou, .inl (cJ, 1, .inr (.inl fl)))] H := hP
    have hD : va_D _ [(ou, .inl (cJ, 1, .inr (.inl fl)))] := hD
    refine W.eq (g2 := F0 m 7 ls [.int 0, .int 0, .ref ou]) rfl ?_
    refine lv_i2l (v := 0) hx hb dL_locus_7 (by decide) ?_
    refine va_last hx hb hK hP hD hS 0 2 rfl rfl (vi (by decide)) dL_locus_8 (fun H locs hP hD hS => ?_)
    have hP : va_P D vwCl [(ou, .inl (cJ, 1, .inr (.inl (vp_updL fl ((0 : Int32).toNatClampNeg) 0))))] H := hP
    have hD : va_D _ [(ou, .inl (cJ, 1, .inr (.inl (vp_updL fl ((0 : Int32).toNatClampNeg) 0))))] := hD
    refine lv_goto (tgt := 18) hx hb dL_locus_9 (by decide) ?_
    refine lv_iconst (v := 0) hx hb dL_locus_18 (by decide) ?_
    exact ck_iret () hx hb hr rfl hlocks rfl (hP.sub [0] rfl) (hK.sub [2] rfl) (hD.sub [0] (by decide) rfl) hS (by decide) (by decide) dL_locus_19
set_option maxHeartbeats 4000000 in
set_option maxRecDepth 100000 in
theorem l_locusN (l : Launch) (hl0 : l.stackTraces = false) (D : va_G) (sz : Nat) (h fo mn df bl tr wk sd : Nat) (ou : Nat) (cJ : ClassId) (fl : Nat → Int64) (wc : Nat) (cI cF : ClassId) (f : Nat → Int32) (z1 z2 : Int32) (x : Int32) (hn : ¬ (¬ x < 0 ∧ x < 2)) : cM l yL_locus (.codeWith yL_locus cL_locus 4 (some .int) [(0, 9, 12, 13), (0, 9, 15, 15)]) 28 900 2 6 [.ref h, .int x, .ref ou] D [(cI, .int), (cF, .object RX2), (cJ, .long)] [(h, .inr (4, [.ref fo, .int 0, .int 0, .ref mn, .ref df, .int 0, .ref bl, .int 0, .int 0, .int 1, .int 0, .ref tr, .ref wk, .ref sd])), (wk, .inr (3, [.ref wc, .int z1, .int z2])), (wc, .inl (cI, 512, .inl f)), (fo, .inl (cF, 1000, .inr (.inr (.inr (.inr (fun _ => none)))))), (ou, .inl (cJ, 1, .inr (.inl fl)))] sz (S := Unit) (fun v _ => v = some (.int 1)) (fun _ => []) (fun _ => []) := by
  refine cM_ofW (by decide) (Nat.le_of_ble_eq_true rfl) ?_
  intro p e s m below meth c ls hF hsz hP hK hD hE hZ hA hl
  obtain ⟨hx, hb, hr, hml, hown, hlocks, hnm, htb, hts⟩ := hF
  have hown : s.vm.findClass RL = some m.cls := hown
  have hl : lv_has ls 4 [(0, .ref h), (1, .int x), (2, .ref ou)] := hl
  have hS : va_S (va_A [(h, .inr (4, [.ref fo, .int 0, .int 0, .ref mn, .ref df, .int 0, .ref bl, .int 0, .int 0, .int 1, .int 0, .ref tr, .ref wk, .ref sd])), (wk, .inr (3, [.ref wc, .int z1, .int z2])), (wc, .inl (cI, 512, .inl f)), (fo, .inl (cF, 1000, .inr (.inr (.inr (.inr (fun _ => none)))))), (ou, .inl (cJ, 1, .inr (.inl fl)))] sz) s.heap s.heap [] := va_S.rf
  refine lv_aload_n hx hb dL_locus_0 rfl (lv_at hl 2 rfl) ?_
  refine lv_iconst (v := 0) hx hb dL_locus_1 (by decide) ?_
  refine lv_aload_n hx hb dL_locus_2 rfl (lv_at hl 0 rfl) ?_
  refine lv_iload_n hx hb dL_locus_3 rfl (lv_at hl 1 rfl) ?_
  refine cx_run (wr := [(ou, .inl (cJ, 1, .inr (.inl fl)))]) (vx_runV (C := RX5) (As := [.int x]) (rest := [.int 0, .ref ou]) ⟨hx, hb, hml, hown, hts⟩ (c_locus l hl0 D s.heap.size h fo mn df bl tr wk sd wc cI cF f z1 z2 x) (cw_V (n := 1) hts tw_2_79 tw_2_80 tw_2_81 tw_1_1 tw_2_82 (by decide +kernel) ⟨by decide, by decide⟩) ⟨pre.blind, va_recv (q := (RX5, TX5, 14)) hK hP (ci := 4) (q0 := 0) rfl rfl, fun U hU hW => ⟨rfl, pre.of (wc := [(h, .inr (4, [.ref fo, .int 0, .int 0, .ref mn, .ref df, .int 0, .ref bl, .int 0, .int 0, .int 1, .int 0, .ref tr, .ref wk, .ref sd])), (wk, .inr (3, [.ref wc, .int z1, .int z2])), (wc, .inl (cI, 512, .inl f)), (fo, .inl (cF, 1000, .inr (.inr (.inr (.inr (fun _ => none))))))]) (tysc := [(cI, .int), (cF, .object RX2)]) (tk := [0, 1]) hP hD hK hS hA hE hZ [0, 1, 2, 3] (by decide) rfl rfl rfl U hU hW⟩⟩ rfl rfl hl.1 rfl (lv_room (Nat.le_of_ble_eq_true rfl)) dL_locus_4 ⟨by decide, by decide⟩) hP hD hK hS hA [0, 1, 2, 3] [4] rfl rfl (by decide) (by decide) (fun E ce q9 H locs hxE hP hD hS hce hcv hcl => ?_) (fun v u H locs hw hP hD hK9 hS => ?_)
  · obtain ⟨rfl, -⟩ := hxE
    refine vx_catch (own := RL) (name := nIAE) hown [] ⟨0, 9, 12, 13⟩ [⟨0, 9, 15, 15⟩] (by rw [htb]; rfl) (fun z hz => nomatch hz) (by decide) (by decide) (hts _ tw_1_167) (hE.w tn_1_175 rfl) hce hcv hcl ?_
    refine W.eq (g2 := F0 m 12 ls [.ref q9]) rfl ?_
    refine lv_astore_n (lv' := [(3, .ref q9), (0, .ref h), (1, .int x), (2, .ref ou)]) hx hb dL_locus_12 rfl hl (by decide) rfl (fun ls hl => ?_)
    refine lv_iconst (v := 1) hx hb dL_locus_13 (by decide) ?_
    exact ck_iret () hx hb hr rfl hlocks rfl (hP.sub [] rfl) (hK.sub [] rfl) (hD.sub [] (by decide) rfl) hS (by decide) (by decide) dL_locus_14
  · have hw : v = some (.int 0) ∧ (¬ x < 0 ∧ x < 2) := hw
    obtain ⟨rfl, hq_1⟩ := hw
    have hP : va_P D vwCl [(ou, .inl (cJ, 1, .inr (.inl fl)))] H := hP
    have hD : va_D _ [(ou, .inl (cJ, 1, .inr (.inl fl)))] := hD
    refine W.eq (g2 := F0 m 7 ls [.int 0, .int 0, .ref ou]) rfl ?_
    exact absurd hq_1 hn
set_option maxHeartbeats 4000000 in
set_option maxRecDepth 100000 in
theorem l_joinY (l : Launch) (hl0 : l.stackTraces = false) (D : va_G) (sz : Nat) (h fo mn df bl tr wk sd : Nat) (ou : Nat) (cJ : ClassId) (fl : Nat → Int64) (wc : Nat) (cI cF : ClassId) (f : Nat → Int32) (z1 z2 : Int32) (x y z : Int32) (hg : (x = 5 ∧ y = (-1) ∧ z = (-1))) : cM l yL_join (.codeWith yL_join cL_join 6 (some .int) [(0, 12, 15, 13), (0, 12, 19, 15)]) 28 900 2 6 [.ref h, .int x, .int y, .int z, .ref ou] D [(cI, .int), (cF, .object RX2), (cJ, .long)] [(h, .inr (4, [.ref fo, .int 0, .int 0, .ref mn, .ref df, .int 0, .ref bl, .int 0, .int 0, .int 1, .int 0, .ref tr, .ref wk, .ref sd])), (wk, .inr (3, [.ref wc, .int z1, .int z2])), (wc, .inl (cI, 512, .inl f)), (fo, .inl (cF, 1000, .inr (.inr (.inr (.inr (fun _ => none)))))), (ou, .inl (cJ, 1, .inr (.inl fl)))] sz (S := Unit) (fun v _ => v = some (.int 0)) (fun _ => [(ou, .inl (cJ, 1, .inr (.inl (vp_updL fl ((0 : Int32).toNatClampNeg) 0))))]) (fun _ => [(cJ, .long)]) := by
  refine cM_ofW (by decide) (Nat.le_of_ble_eq_true rfl) ?_
  intro p e s m below meth c ls hF hsz hP hK hD hE hZ hA hl
  obtain ⟨hx, hb, hr, hml, hown, hlocks, hnm, htb, hts⟩ := hF
  have hown : s.vm.findClass RL = some m.cls := hown
  have hl : lv_has ls 6 [(0, .ref h), (1, .int x), (2, .int y), (3, .int z), (4, .ref ou)] := hl
  have hS : va_S (va_A [(h, .inr (4, [.ref fo, .int 0, .int 0, .ref mn, .ref df, .int 0, .ref bl, .int 0, .int 0, .int 1, .int 0, .ref tr, .ref wk, .ref sd])), (wk, .inr (3, [.ref wc, .int z1, .int z2])), (wc, .inl (cI, 512, .inl f)), (fo, .inl (cF, 1000, .inr (.inr (.inr (.inr (fun _ => none)))))), (ou, .inl (cJ, 1, .inr (.inl fl)))] sz) s.heap s.heap [] := va_S.rf
  refine lv_aload hx hb dL_join_0 (lv_at hl 4 rfl) ?_
  refine lv_iconst (v := 0) hx hb dL_join_2 (by decide) ?_
  refine lv_aload_n hx hb dL_join_3 rfl (lv_at hl 0 rfl) ?_
  refine lv_iload_n hx hb dL_join_4 rfl (lv_at hl 1 rfl) ?_
  refine lv_iload_n hx hb dL_join_5 rfl (lv_at hl 2 rfl) ?_
  refine lv_iload_n hx hb dL_join_6 rfl (lv_at hl 3 rfl) ?_
  refine cx_run (wr := [(ou, .inl (cJ, 1, .inr (.inl fl)))]) (vx_runV (C := RX5) (As := [.int x, .int y, .int z]) (rest := [.int 0, .ref ou]) ⟨hx, hb, hml, hown, hts⟩ (c_join l hl0 D s.heap.size h fo mn df bl tr wk sd wc cI cF f z1 z2 x y z) (cw_V (n := 3) hts tw_2_117 tw_2_118 tw_2_119 tw_1_1 tw_2_120 (by decide +kernel) ⟨by decide, by decide⟩) ⟨pre.blind, va_recv (q := (RX5, TX5, 14)) hK hP (ci := 4) (q0 := 0) rfl rfl, fun U hU hW => ⟨rfl, pre.of (wc := [(h, .inr (4, [.ref fo, .int 0, .int 0, .ref mn, .ref df, .int 0, .ref bl, .int 0, .int 0, .int 1, .int 0, .ref tr, .ref wk, .ref sd])), (wk, .inr (3, [.ref wc, .int z1, .int z2])), (wc, .inl (cI, 512, .inl f)), (fo, .inl (cF, 1000, .inr (.inr (.inr (.inr (fun _ => none))))))]) (tysc := [(cI, .int), (cF, .object RX2)]) (tk := [0, 1]) hP hD hK hS hA hE hZ [0, 1, 2, 3] (by decide) rfl rfl rfl U hU hW⟩⟩ rfl rfl hl.1 rfl (lv_room (Nat.le_of_ble_eq_true rfl)) dL_join_7 ⟨by decide, by decide⟩) hP hD hK hS hA [0, 1, 2, 3] [4] rfl rfl (by decide) (by decide) (fun E ce q9 H locs hxE hP hD hS hce hcv hcl => ?_) (fun v u H locs hw hP hD hK9 hS => ?_)
  · exact absurd hg hxE.2
  · have hw : v = some (.int 0) ∧ (x = 5 ∧ y = (-1) ∧ z = (-1)) := hw
    obtain ⟨rfl, hq_1⟩ := hw
    have hP : va_P D vwCl [(ou, .inl (cJ, 1, .inr (.inl fl)))] H := hP
    have hD : va_D _ [(ou, .inl (cJ, 1, .inr (.inl fl)))] := hD
    refine W.eq (g2 := F0 m 10 ls [.int 0, .int 0, .ref ou]) rfl ?_
    refine lv_i2l (v := 0) hx hb dL_join_10 (by decide) ?_
    refine va_last hx hb hK hP hD hS 0 2 rfl rfl (vi (by decide)) dL_join_11 (fun H locs hP hD hS => ?_)
    have hP : va_P D vwCl [(ou, .inl (cJ, 1, .inr (.inl (vp_updL fl ((0 : Int32).toNatClampNeg) 0))))] H := hP
    have hD : va_D _ [(ou, .inl (cJ, 1, .inr (.inl (vp_updL fl ((0 : Int32).toNatClampNeg) 0))))] := hD
    refine lv_goto (tgt := 23) hx hb dL_join_12 (by decide) ?_
    refine lv_iconst (v := 0) hx hb dL_join_23 (by decide) ?_
    exact ck_iret () hx hb hr rfl hlocks rfl (hP.sub [0] rfl) (hK.sub [2] rfl) (hD.sub [0] (by decide) rfl) hS (by decide) (by decide) dL_join_24
set_option maxHeartbeats 4000000 in
set_option maxRecDepth 100000 in
theorem l_joinN (l : Launch) (hl0 : l.stackTraces = false) (D : va_G) (sz : Nat) (h fo mn df bl tr wk sd : Nat) (ou : Nat) (cJ : ClassId) (fl : Nat → Int64) (wc : Nat) (cI cF : ClassId) (f : Nat → Int32) (z1 z2 : Int32) (x y z : Int32) (hn : ¬ (x = 5 ∧ y = (-1) ∧ z = (-1))) : cM l yL_join (.codeWith yL_join cL_join 6 (some .int) [(0, 12, 15, 13), (0, 12, 19, 15)]) 28 900 2 6 [.ref h, .int x, .int y, .int z, .ref ou] D [(cI, .int), (cF, .object RX2), (cJ, .long)] [(h, .inr (4, [.ref fo, .int 0, .int 0, .ref mn, .ref df, .int 0, .ref bl, .int 0, .int 0, .int 1, .int 0, .ref tr, .ref wk, .ref sd])), (wk, .inr (3, [.ref wc, .int z1, .int z2])), (wc, .inl (cI, 512, .inl f)), (fo, .inl (cF, 1000, .inr (.inr (.inr (.inr (fun _ => none)))))), (ou, .inl (cJ, 1, .inr (.inl fl)))] sz (S := Unit) (fun v _ => v = some (.int 1)) (fun _ => []) (fun _ => []) := by
  refine cM_ofW (by decide) (Nat.le_of_ble_eq_true rfl) ?_
  intro p e s m below meth c ls hF hsz hP hK hD hE hZ hA hl
  obtain ⟨hx, hb, hr, hml, hown, hlocks, hnm, htb, hts⟩ := hF
  have hown : s.vm.findClass RL = some m.cls := hown
  have hl : lv_has ls 6 [(0, .ref h), (1, .int x), (2, .int y), (3, .int z), (4, .ref ou)] := hl
  have hS : va_S (va_A [(h, .inr (4, [.ref fo, .int 0, .int 0, .ref mn, .ref df, .int 0, .ref bl, .int 0, .int 0, .int 1, .int 0, .ref tr, .ref wk, .ref sd])), (wk, .inr (3, [.ref wc, .int z1, .int z2])), (wc, .inl (cI, 512, .inl f)), (fo, .inl (cF, 1000, .inr (.inr (.inr (.inr (fun _ => none)))))), (ou, .inl (cJ, 1, .inr (.inl fl)))] sz) s.heap s.heap [] := va_S.rf
  refine lv_aload hx hb dL_join_0 (lv_at hl 4 rfl) ?_
  refine lv_iconst (v := 0) hx hb dL_join_2 (by decide) ?_
  refine lv_aload_n hx hb dL_join_3 rfl (lv_at hl 0 rfl) ?_
  refine lv_iload_n hx hb dL_join_4 rfl (lv_at hl 1 rfl) ?_
  refine lv_iload_n hx hb dL_join_5 rfl (lv_at hl 2 rfl) ?_
  refine lv_iload_n hx hb dL_join_6 rfl (lv_at hl 3 rfl) ?_
  refine cx_run (wr := [(ou, .inl (cJ, 1, .inr (.inl fl)))]) (vx_runV (C := RX5) (As := [.int x, .int y, .int z]) (rest := [.int 0, .ref ou]) ⟨hx, hb, hml, hown, hts⟩ (c_join l hl0 D s.heap.size h fo mn df bl tr wk sd wc cI cF f z1 z2 x y z) (cw_V (n := 3) hts tw_2_117 tw_2_118 tw_2_119 tw_1_1 tw_2_120 (by decide +kernel) ⟨by decide, by decide⟩) ⟨pre.blind, va_recv (q := (RX5, TX5, 14)) hK hP (ci := 4) (q0 := 0) rfl rfl, fun U hU hW => ⟨rfl, pre.of (wc := [(h, .inr (4, [.ref fo, .int 0, .int 0, .ref mn, .ref df, .int 0, .ref bl, .int 0, .int 0, .int 1, .int 0, .ref tr, .ref wk, .ref sd])), (wk, .inr (3, [.ref wc, .int z1, .int z2])), (wc, .inl (cI, 512, .inl f)), (fo, .inl (cF, 1000, .inr (.inr (.inr (.inr (fun _ => none))))))]) (tysc := [(cI, .int), (cF, .object RX2)]) (tk := [0, 1]) hP hD hK hS hA hE hZ [0, 1, 2, 3] (by decide) rfl rfl rfl U hU hW⟩⟩ rfl rfl hl.1 rfl (lv_room (Nat.le_of_ble_eq_true rfl)) dL_join_7 ⟨by decide, by decide⟩) hP hD hK hS hA [0, 1, 2, 3] [4] rfl rfl (by decide) (by decide) (fun E ce q9 H locs hxE hP hD hS hce hcv hcl => ?_) (fun v u H locs hw hP hD hK9 hS => ?_)
  · obtain ⟨rfl, -⟩ := hxE
    refine vx_catch (own := RL) (name := nIAE) hown [] ⟨0, 12, 15, 13⟩ [⟨0, 12, 19, 15⟩] (by rw [htb]; rfl) (fun z hz => nomatch hz) (by decide) (by decide) (hts _ tw_1_167) (hE.w tn_1_175 rfl) hce hcv hcl ?_
    refine W.eq (g2 := F0 m 15 ls [.ref q9]) rfl ?_
    refine lv_astore (lv' := [(5, .ref q9), (0, .ref h), (1, .int x), (2, .int y), (3, .int z), (4, .ref ou)]) hx hb dL_join_15 hl (by decide) rfl (fun ls hl => ?_)
    refine lv_iconst (v := 1) hx hb dL_join_17 (by decide) ?_
    exact ck_iret () hx hb hr rfl hlocks rfl (hP.sub [] rfl) (hK.sub [] rfl) (hD.sub [] (by decide) rfl) hS (by decide) (by decide) dL_join_18
  · have hw : v = some (.int 0) ∧ (x = 5 ∧ y = (-1) ∧ z = (-1)) := hw
    obtain ⟨rfl, hq_1⟩ := hw
    have hP : va_P D vwCl [(ou, .inl (cJ, 1, .inr (.inl fl)))] H := hP
    have hD : va_D _ [(ou, .inl (cJ, 1, .inr (.inl fl)))] := hD
    refine W.eq (g2 := F0 m 10 ls [.int 0, .int 0, .ref ou]) rfl ?_
    exact absurd hq_1 hn
set_option maxHeartbeats 4000000 in
set_option maxRecDepth 100000 in
theorem l_countY (l : Launch) (hl0 : l.stackTraces = false) (D : va_G) (sz : Nat) (h fo mn df bl tr wk sd : Nat) (ou : Nat) (cJ : ClassId) (fl : Nat → Int64) (x : Int32) (hg : (x = 0 ∨ x = 1 ∨ x = 2 ∨ x = 3 ∨ x = 4)) : cM l yL_count (.codeWith yL_count cL_count 4 (some .int) [(0, 9, 12, 13)]) 28 900 1 6 [.ref h, .int x, .ref ou] D [(cJ, .long)] [(h, .inr (4, [.ref fo, .int 0, .int 0, .ref mn, .ref df, .int 0, .ref bl, .int 0, .int 0, .int 1, .int 0, .ref tr, .ref wk, .ref sd])), (ou, .inl (cJ, 1, .inr (.inl fl)))] sz (S := Unit) (fun v _ => v = some (.int 0)) (fun _ => [(ou, .inl (cJ, 1, .inr (.inl (vp_updL fl ((0 : Int32).toNatClampNeg) 0))))]) (fun _ => [(cJ, .long)]) := by
  refine cM_ofW (by decide) (Nat.le_of_ble_eq_true rfl) ?_
  intro p e s m below meth c ls hF hsz hP hK hD hE hZ hA hl
  obtain ⟨hx, hb, hr, hml, hown, hlocks, hnm, htb, hts⟩ := hF
  have hown : s.vm.findClass RL = some m.cls := hown
  have hl : lv_has ls 4 [(0, .ref h), (1, .int x), (2, .ref ou)] := hl
  have hS : va_S (va_A [(h, .inr (4, [.ref fo, .int 0, .int 0, .ref mn, .ref df, .int 0, .ref bl, .int 0, .int 0, .int 1, .int 0, .ref tr, .ref wk, .ref sd])), (ou, .inl (cJ, 1, .inr (.inl fl)))] sz) s.heap s.heap [] := va_S.rf
  refine lv_aload_n hx hb dL_count_0 rfl (lv_at hl 2 rfl) ?_
  refine lv_iconst (v := 0) hx hb dL_count_1 (by decide) ?_
  refine lv_aload_n hx hb dL_count_2 rfl (lv_at hl 0 rfl) ?_
  refine lv_iload_n hx hb dL_count_3 rfl (lv_at hl 1 rfl) ?_
  refine cx_run (wr := [(ou, .inl (cJ, 1, .inr (.inl fl)))]) (vx_runV (C := RX5) (As := [.int x]) (rest := [.int 0, .ref ou]) ⟨hx, hb, hml, hown, hts⟩ (c_count l hl0 D s.heap.size h fo mn df bl tr wk sd x) (cw_V (n := 1) hts tw_4_12 tw_4_13 tw_4_14 tw_1_1 tw_4_15 (by decide +kernel) ⟨by decide, by decide⟩) ⟨pre.blind, va_recv (q := (RX5, TX5, 14)) hK hP (ci := 4) (q0 := 0) rfl rfl, fun U hU hW => ⟨rfl, pre.of (wc := [(h, .inr (4, [.ref fo, .int 0, .int 0, .ref mn, .ref df, .int 0, .ref bl, .int 0, .int 0, .int 1, .int 0, .ref tr, .ref wk, .ref sd]))]) (tysc := []) (tk := []) hP hD hK hS hA hE hZ [0] (by decide) rfl rfl rfl U hU hW⟩⟩ rfl rfl hl.1 rfl (lv_room (Nat.le_of_ble_eq_true rfl)) dL_count_4 ⟨by decide, by decide⟩) hP hD hK hS hA [0] [1] rfl rfl (by decide) (by decide) (fun E ce q9 H locs hxE hP hD hS hce hcv hcl => ?_) (fun v u H locs hw hP hD hK9 hS => ?_)
  · exact absurd hg hxE.2
  · have hw : v = some (.int 0) ∧ (x = 0 ∨ x = 1 ∨ x = 2 ∨ x = 3 ∨ x = 4) := hw
    obtain ⟨rfl, hq_1⟩ := hw
    have hP : va_P D vwCl [(ou, .inl (cJ, 1, .inr (.inl fl)))] H := hP
    have hD : va_D _ [(ou, .inl (cJ, 1, .inr (.inl fl)))] := hD
    refine W.eq (g2 := F0 m 7 ls [.int 0, .int 0, .ref ou]) rfl ?_
    refine lv_i2l (v := 0) hx hb dL_count_7 (by decide) ?_
    refine va_last hx hb hK hP hD hS 0 0 rfl rfl (vi (by decide)) dL_count_8 (fun H locs hP hD hS => ?_)
    have hP : va_P D vwCl [(ou, .inl (cJ, 1, .inr (.inl (vp_updL fl ((0 : Int32).toNatClampNeg) 0))))] H := hP
    have hD : va_D _ [(ou, .inl (cJ, 1, .inr (.inl (vp_updL fl ((0 : Int32).toNatClampNeg) 0))))] := hD
    refine lv_goto (tgt := 15) hx hb dL_count_9 (by decide) ?_
    refine lv_iconst (v := 0) hx hb dL_count_15 (by decide) ?_
    exact ck_iret () hx hb hr rfl hlocks rfl (hP.sub [0] rfl) (hK.sub [0] rfl) (hD.sub [0] (by decide) rfl) hS (by decide) (by decide) dL_count_16
set_option maxHeartbeats 4000000 in
set_option maxRecDepth 100000 in
theorem l_countN (l : Launch) (hl0 : l.stackTraces = false) (D : va_G) (sz : Nat) (h fo mn df bl tr wk sd : Nat) (ou : Nat) (cJ : ClassId) (fl : Nat → Int64) (x : Int32) (hn : ¬ (x = 0 ∨ x = 1 ∨ x = 2 ∨ x = 3 ∨ x = 4)) : cM l yL_count (.codeWith yL_count cL_count 4 (some .int) [(0, 9, 12, 13)]) 28 900 1 6 [.ref h, .int x, .ref ou] D [(cJ, .long)] [(h, .inr (4, [.ref fo, .int 0, .int 0, .ref mn, .ref df, .int 0, .ref bl, .int 0, .int 0, .int 1, .int 0, .ref tr, .ref wk, .ref sd])), (ou, .inl (cJ, 1, .inr (.inl fl)))] sz (S := Unit) (fun v _ => v = some (.int 1)) (fun _ => []) (fun _ => []) := by
  refine cM_ofW (by decide) (Nat.le_of_ble_eq_true rfl) ?_
  intro p e s m below meth c ls hF hsz hP hK hD hE hZ hA hl
  obtain ⟨hx, hb, hr, hml, hown, hlocks, hnm, htb, hts⟩ := hF
  have hown : s.vm.findClass RL = some m.cls := hown
  have hl : lv_has ls 4 [(0, .ref h), (1, .int x), (2, .ref ou)] := hl
  have hS : va_S (va_A [(h, .inr (4, [.ref fo, .int 0, .int 0, .ref mn, .ref df, .int 0, .ref bl, .int 0, .int 0, .int 1, .int 0, .ref tr, .ref wk, .ref sd])), (ou, .inl (cJ, 1, .inr (.inl fl)))] sz) s.heap s.heap [] := va_S.rf
  refine lv_aload_n hx hb dL_count_0 rfl (lv_at hl 2 rfl) ?_
  refine lv_iconst (v := 0) hx hb dL_count_1 (by decide) ?_
  refine lv_aload_n hx hb dL_count_2 rfl (lv_at hl 0 rfl) ?_
  refine lv_iload_n hx hb dL_count_3 rfl (lv_at hl 1 rfl) ?_
  refine cx_run (wr := [(ou, .inl (cJ, 1, .inr (.inl fl)))]) (vx_runV (C := RX5) (As := [.int x]) (rest := [.int 0, .ref ou]) ⟨hx, hb, hml, hown, hts⟩ (c_count l hl0 D s.heap.size h fo mn df bl tr wk sd x) (cw_V (n := 1) hts tw_4_12 tw_4_13 tw_4_14 tw_1_1 tw_4_15 (by decide +kernel) ⟨by decide, by decide⟩) ⟨pre.blind, va_recv (q := (RX5, TX5, 14)) hK hP (ci := 4) (q0 := 0) rfl rfl, fun U hU hW => ⟨rfl, pre.of (wc := [(h, .inr (4, [.ref fo, .int 0, .int 0, .ref mn, .ref df, .int 0, .ref bl, .int 0, .int 0, .int 1, .int 0, .ref tr, .ref wk, .ref sd]))]) (tysc := []) (tk := []) hP hD hK hS hA hE hZ [0] (by decide) rfl rfl rfl U hU hW⟩⟩ rfl rfl hl.1 rfl (lv_room (Nat.le_of_ble_eq_true rfl)) dL_count_4 ⟨by decide, by decide⟩) hP hD hK hS hA [0] [1] rfl rfl (by decide) (by decide) (fun E ce q9 H locs hxE hP hD hS hce hcv hcl => ?_) (fun v u H locs hw hP hD hK9 hS => ?_)
  · obtain ⟨rfl, -⟩ := hxE
    refine vx_catch (own := RL) (name := nIAE) hown [] ⟨0, 9, 12, 13⟩ [] (by rw [htb]; rfl) (fun z hz => nomatch hz) (by decide) (by decide) (hts _ tw_1_167) (hE.w tn_1_175 rfl) hce hcv hcl ?_
    refine W.eq (g2 := F0 m 12 ls [.ref q9]) rfl ?_
    refine lv_astore_n (lv' := [(3, .ref q9), (0, .ref h), (1, .int x), (2, .ref ou)]) hx hb dL_count_12 rfl hl (by decide) rfl (fun ls hl => ?_)
    refine lv_iconst (v := 1) hx hb dL_count_13 (by decide) ?_
    exact ck_iret () hx hb hr rfl hlocks rfl (hP.sub [] rfl) (hK.sub [] rfl) (hD.sub [] (by decide) rfl) hS (by decide) (by decide) dL_count_14
  · have hw : v = some (.int 0) ∧ (x = 0 ∨ x = 1 ∨ x = 2 ∨ x = 3 ∨ x = 4) := hw
    obtain ⟨rfl, hq_1⟩ := hw
    have hP : va_P D vwCl [(ou, .inl (cJ, 1, .inr (.inl fl)))] H := hP
    have hD : va_D _ [(ou, .inl (cJ, 1, .inr (.inl fl)))] := hD
    refine W.eq (g2 := F0 m 7 ls [.int 0, .int 0, .ref ou]) rfl ?_
    exact absurd hq_1 hn
set_option maxHeartbeats 4000000 in
set_option maxRecDepth 100000 in
theorem l_constant (l : Launch) (D : va_G) (sz : Nat) (h fo mn df bl tr wk sd : Nat) (ou : Nat) (cJ : ClassId) (fl : Nat → Int64) (wc : Nat) (cI cF : ClassId) (f : Nat → Int32) (z1 z2 : Int32) : cM l yL_constant (.codeWith yL_constant cL_constant 3 (some .int) [(0, 8, 11, 15)]) 28 900 2 4 [.ref h, .ref ou] D [(cI, .int), (cF, .object RX2), (cJ, .long)] [(h, .inr (4, [.ref fo, .int 0, .int 0, .ref mn, .ref df, .int 0, .ref bl, .int 0, .int 0, .int 1, .int 0, .ref tr, .ref wk, .ref sd])), (wk, .inr (3, [.ref wc, .int z1, .int z2])), (wc, .inl (cI, 512, .inl f)), (fo, .inl (cF, 1000, .inr (.inr (.inr (.inr (fun _ => none)))))), (ou, .inl (cJ, 1, .inr (.inl fl)))] sz (S := Unit) (fun v _ => v = some (.int 0)) (fun _ => [(ou, .inl (cJ, 1, .inr (.inl (vp_updL fl ((0 : Int32).toNatClampNeg) 0))))]) (fun _ => [(cJ, .long)]) := by
  refine cM_ofW (by decide) (Nat.le_of_ble_eq_true rfl) ?_
  intro p e s m below meth c ls hF hsz hP hK hD hE hZ hA hl
  obtain ⟨hx, hb, hr, hml, hown, hlocks, hnm, htb, hts⟩ := hF
  have hown : s.vm.findClass RL = some m.cls := hown
  have hl : lv_has ls 3 [(0, .ref h), (1, .ref ou)] := hl
  have hS : va_S (va_A [(h, .inr (4, [.ref fo, .int 0, .int 0, .ref mn, .ref df, .int 0, .ref bl, .int 0, .int 0, .int 1, .int 0, .ref tr, .ref wk, .ref sd])), (wk, .inr (3, [.ref wc, .int z1, .int z2])), (wc, .inl (cI, 512, .inl f)), (fo, .inl (cF, 1000, .inr (.inr (.inr (.inr (fun _ => none)))))), (ou, .inl (cJ, 1, .inr (.inl fl)))] sz) s.heap s.heap [] := va_S.rf
  refine lv_aload_n hx hb dL_constant_0 rfl (lv_at hl 1 rfl) ?_
  refine lv_iconst (v := 0) hx hb dL_constant_1 (by decide) ?_
  refine lv_aload_n hx hb dL_constant_2 rfl (lv_at hl 0 rfl) ?_
  refine ck_run (wr := [(ou, .inl (cJ, 1, .inr (.inl fl)))]) (va_runV (C := RX5) (As := []) (rest := [.int 0, .ref ou]) ⟨hx, hb, hml, hown, hts⟩ (c_constant l D s.heap.size h fo mn df bl tr wk sd wc cI cF f z1 z2) (cw_V (n := 0) hts tw_2_51 tw_2_52 tw_2_53 tw_1_1 tw_2_54 (by decide +kernel) ⟨by decide, by decide⟩) ⟨pre.blind, va_recv (q := (RX5, TX5, 14)) hK hP (ci := 4) (q0 := 0) rfl rfl, fun U hU hW => ⟨rfl, pre.of (wc := [(h, .inr (4, [.ref fo, .int 0, .int 0, .ref mn, .ref df, .int 0, .ref bl, .int 0, .int 0, .int 1, .int 0, .ref tr, .ref wk, .ref sd])), (wk, .inr (3, [.ref wc, .int z1, .int z2])), (wc, .inl (cI, 512, .inl f)), (fo, .inl (cF, 1000, .inr (.inr (.inr (.inr (fun _ => none))))))]) (tysc := [(cI, .int), (cF, .object RX2)]) (tk := [0, 1]) hP hD hK hS hA hE hZ [0, 1, 2, 3] (by decide) rfl rfl rfl U hU hW⟩⟩ rfl rfl hl.1 rfl (lv_room (Nat.le_of_ble_eq_true rfl)) dL_constant_3 ⟨by decide, by decide⟩) hP hD hK hS hA [0, 1, 2, 3] [4] rfl rfl (by decide) (by decide) (fun v u H locs hw hP hD hK9 hS => ?_)
  have hw : v = some (.int 0) := hw
  subst hw
  have hP : va_P D vwCl [(ou, .inl (cJ, 1, .inr (.inl fl)))] H := hP
  have hD : va_D _ [(ou, .inl (cJ, 1, .inr (.inl fl)))] := hD
  refine W.eq (g2 := F0 m 6 ls [.int 0, .int 0, .ref ou]) rfl ?_
  refine lv_i2l (v := 0) hx hb dL_constant_6 (by decide) ?_
  refine va_last hx hb hK hP hD hS 0 2 rfl rfl (vi (by decide)) dL_constant_7 (fun H locs hP hD hS => ?_)
  have hP : va_P D vwCl [(ou, .inl (cJ, 1, .inr (.inl (vp_updL fl ((0 : Int32).toNatClampNeg) 0))))] H := hP
  have hD : va_D _ [(ou, .inl (cJ, 1, .inr (.inl (vp_updL fl ((0 : Int32).toNatClampNeg) 0))))] := hD
  refine lv_goto (tgt := 14) hx hb dL_constant_8 (by decide) ?_
  refine lv_iconst (v := 0) hx hb dL_constant_14 (by decide) ?_
  exact ck_iret () hx hb hr rfl hlocks rfl (hP.sub [0] rfl) (hK.sub [2] rfl) (hD.sub [0] (by decide) rfl) hS (by decide) (by decide) dL_constant_15
set_option maxHeartbeats 4000000 in
set_option maxRecDepth 100000 in
theorem l_now (l : Launch) (D : va_G) (sz : Nat) (h fo mn df bl tr wk sd : Nat) (ou : Nat) (cJ : ClassId) (fl : Nat → Int64) (b0 : Nat) (cB : ClassId) (gb : Nat → Option Nat) (hg : gb ((0 : Int32).toNatClampNeg) = some b0) : cM l yL_now (.codeWith yL_now cL_now 3 (some .int) [(0, 8, 11, 15)]) 28 900 0 0 [.ref h, .ref ou] D [(cB, .object RX0), (cJ, .long)] [(h, .inr (4, [.ref fo, .int 0, .int 0, .ref mn, .ref df, .int 0, .ref bl, .int 0, .int 0, .int 1, .int 0, .ref tr, .ref wk, .ref sd])), (bl, .inl (cB, 40, .inr (.inr (.inr (.inr gb))))), (b0, .inr (0, [.int 0, .null, .int 0, .int 0, .null])), (ou, .inl (cJ, 1, .inr (.inl fl)))] sz (S := Unit) (fun v _ => v = some (.int 0)) (fun _ => [(ou, .inl (cJ, 1, .inr (.inl (vp_updL fl ((0 : Int32).toNatClampNeg) 1))))]) (fun _ => [(cJ, .long)]) := by
  refine cM_ofW (by decide) (Nat.le_of_ble_eq_true rfl) ?_
  intro p e s m below meth c ls hF hsz hP hK hD hE hZ hA hl
  obtain ⟨hx, hb, hr, hml, hown, hlocks, hnm, htb, hts⟩ := hF
  have hown : s.vm.findClass RL = some m.cls := hown
  have hl : lv_has ls 3 [(0, .ref h), (1, .ref ou)] := hl
  have hS : va_S (va_A [(h, .inr (4, [.ref fo, .int 0, .int 0, .ref mn, .ref df, .int 0, .ref bl, .int 0, .int 0, .int 1, .int 0, .ref tr, .ref wk, .ref sd])), (bl, .inl (cB, 40, .inr (.inr (.inr (.inr gb))))), (b0, .inr (0, [.int 0, .null, .int 0, .int 0, .null])), (ou, .inl (cJ, 1, .inr (.inl fl)))] sz) s.heap s.heap [] := va_S.rf
  refine lv_aload_n hx hb dL_now_0 rfl (lv_at hl 1 rfl) ?_
  refine lv_iconst (v := 0) hx hb dL_now_1 (by decide) ?_
  refine lv_aload_n hx hb dL_now_2 rfl (lv_at hl 0 rfl) ?_
  refine ck_run (wr := [(ou, .inl (cJ, 1, .inr (.inl fl)))]) (va_runV (C := RX5) (As := []) (rest := [.int 0, .ref ou]) ⟨hx, hb, hml, hown, hts⟩ (c_now l D s.heap.size h fo mn df bl tr wk sd b0 cB gb hg) (cw_V (n := 0) hts tw_3_14 tw_3_15 tw_3_16 tw_1_1 tw_3_17 (by decide +kernel) ⟨by decide, by decide⟩) ⟨pre.blind, va_recv (q := (RX5, TX5, 14)) hK hP (ci := 4) (q0 := 0) rfl rfl, fun U hU hW => ⟨rfl, pre.of (wc := [(h, .inr (4, [.ref fo, .int 0, .int 0, .ref mn, .ref df, .int 0, .ref bl, .int 0, .int 0, .int 1, .int 0, .ref tr, .ref wk, .ref sd])), (bl, .inl (cB, 40, .inr (.inr (.inr (.inr gb))))), (b0, .inr (0, [.int 0, .null, .int 0, .int 0, .null]))]) (tysc := [(cB, .object RX0)]) (tk := [0]) hP hD hK hS hA hE hZ [0, 1, 2] (by decide) rfl rfl rfl U hU hW⟩⟩ rfl rfl hl.1 rfl (lv_room (Nat.le_of_ble_eq_true rfl)) dL_now_3 ⟨by decide, by decide⟩) hP hD hK hS hA [0, 1, 2] [3] rfl rfl (by decide) (by decide) (fun v u H locs hw hP hD hK9 hS => ?_)
  have hw : v = some (.int 1) := hw
  subst hw
  have hP : va_P D vwCl [(ou, .inl (cJ, 1, .inr (.inl fl)))] H := hP
  have hD : va_D _ [(ou, .inl (cJ, 1, .inr (.inl fl)))] := hD
  refine W.eq (g2 := F0 m 6 ls [.int 1, .int 0, .ref ou]) rfl ?_
  refine lv_i2l (v := 1) hx hb dL_now_6 (by decide) ?_
  refine va_last hx hb hK hP hD hS 0 1 rfl rfl (vi (by decide)) dL_now_7 (fun H locs hP hD hS => ?_)
  have hP : va_P D vwCl [(ou, .inl (cJ, 1, .inr (.inl (vp_updL fl ((0 : Int32).toNatClampNeg) 1))))] H := hP
  have hD : va_D _ [(ou, .inl (cJ, 1, .inr (.inl (vp_updL fl ((0 : Int32).toNatClampNeg) 1))))] := hD
  refine lv_goto (tgt := 14) hx hb dL_now_8 (by decide) ?_
  refine lv_iconst (v := 0) hx hb dL_now_14 (by decide) ?_
  exact ck_iret () hx hb hr rfl hlocks rfl (hP.sub [0] rfl) (hK.sub [1] rfl) (hD.sub [0] (by decide) rfl) hS (by decide) (by decide) dL_now_15
