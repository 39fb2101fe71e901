set_option maxHeartbeats 4000000 in
set_option maxRecDepth 100000 in
theorem c_around (l : Launch) (D : va_G) (sz : Nat) (d fa ma da ba wk sd tr : Nat) (fc cc pr bc nc lf mi : Int32) (cB : ClassId) (BA : Nat → Option Nat) (po : va_W) (BS : Nat → BC) (hB : bAll po BA BS) (sh : Int32) : cM l yX5_tellAround (.code yX5_tellAround cX5_tellAround 3 none) 20 620 0 0 [.ref d, .int sh] D [(cB, .object RX0)] ([(d, .inr (4, [.ref fa, .int fc, .int cc, .ref ma, .ref da, .int pr, .ref ba, .int bc, .int nc, .int lf, .int mi, .ref tr, .ref wk, .ref sd])), (ba, .inl (cB, 40, .inr (.inr (.inr (.inr BA)))))] ++ po) sz (S := va_W) (fun v u => v = none ∧ (((q_openB bc BA = none ∨ ¬ sh = 0) ∧ u = po) ∨ (sh = 0 ∧ ∃ b i : Nat, q_openB bc BA = some b ∧ po[i]? = some (b, .inr (0, [.int ((bTop bc BS).1), va_rf ((bTop bc BS).2.1), .int ((bTop bc BS).2.2.1), .int ((bTop bc BS).2.2.2.1), va_rf ((bTop bc BS).2.2.2.2)])) ∧ u = po.set i (b, .inr (0, [.int ((bTop bc BS).1), va_rf ((bTop bc BS).2.1), .int ((bTop bc BS).2.2.1), .int 1, va_rf ((bTop bc BS).2.2.2.2)]))))) (fun u => ([(d, .inr (4, [.ref fa, .int fc, .int cc, .ref ma, .ref da, .int pr, .ref ba, .int bc, .int nc, .int lf, .int mi, .ref tr, .ref wk, .ref sd])), (ba, .inl (cB, 40, .inr (.inr (.inr (.inr BA)))))] ++ u)) (fun u => [(cB, .object RX0)]) := by
  refine cM_of (by decide) (Nat.le_of_ble_eq_true rfl) ?_
  intro p e s m below meth c ls hF hsz hP hK hD hE hZ hA hl
  obtain ⟨hx, hb, hr, hml, hown, hlocks, hnm, htb, hts⟩ := hF
  have hown : s.vm.findClass RX5 = some m.cls := hown
  have hl : lv_has ls 3 [(0, .ref d), (1, .int sh)] := hl
  have hS : va_S (va_A ([(d, .inr (4, [.ref fa, .int fc, .int cc, .ref ma, .ref da, .int pr, .ref ba, .int bc, .int nc, .int lf, .int mi, .ref tr, .ref wk, .ref sd])), (ba, .inl (cB, 40, .inr (.inr (.inr (.inr BA)))))] ++ po) sz) s.heap s.heap [] := va_S.rf
  refine lv_aload_n hx hb dX5_tellAround_0 rfl (lv_at hl 0 rfl) ?_
  refine ck_runQ (wr := []) (va_runV (C := RX5) (As := []) (rest := []) ⟨hx, hb, hml, hown, hts⟩ (c_openB l D s.heap.size d fa ma da ba wk sd tr fc cc pr bc nc lf mi cB BA) (cw_V (n := 0) hts tw_2_237 tw_2_239 tw_s24 tw_1_1 tw_3_0 (by decide +kernel) ⟨by decide, by decide⟩) ⟨pre.blind, va_recv (q := (RX5, TX5, 14)) hK hP (ci := 4) (q0 := 0) rfl rfl, fun U hU hW => ⟨rfl, pre.of (wc := [(d, .inr (4, [.ref fa, .int fc, .int cc, .ref ma, .ref da, .int pr, .ref ba, .int bc, .int nc, .int lf, .int mi, .ref tr, .ref wk, .ref sd])), (ba, .inl (cB, 40, .inr (.inr (.inr (.inr BA)))))]) (tysc := [(cB, .object RX0)]) (tk := [0]) hP.left hD.left hK hS hA hE hZ [0, 1] (by decide) rfl rfl rfl U hU hW⟩⟩ rfl rfl hl.1 rfl (lv_room (Nat.le_of_ble_eq_true rfl)) dX5_tellAround_1 ⟨by decide, by decide⟩) hP hD hK hS hA [0, 1] [] rfl rfl (by decide) (by decide) (fun v u H locs hw hP hD hK9 hS => ?_)
  have hw : v = some (va_rf (q_openB bc BA)) := hw
  subst hw
  have hP : va_P D vwCl ([(d, .inr (4, [.ref fa, .int fc, .int cc, .ref ma, .ref da, .int pr, .ref ba, .int bc, .int nc, .int lf, .int mi, .ref tr, .ref wk, .ref sd])), (ba, .inl (cB, 40, .inr (.inr (.inr (.inr BA)))))] ++ po) H := hP
  have hD : va_D _ ([(d, .inr (4, [.ref fa, .int fc, .int cc, .ref ma, .ref da, .int pr, .ref ba, .int bc, .int nc, .int lf, .int mi, .ref tr, .ref wk, .ref sd])), (ba, .inl (cB, 40, .inr (.inr (.inr (.inr BA)))))] ++ po) := hD
  refine W.eq (g2 := F0 m 4 ls [va_rf (q_openB bc BA)]) rfl ?_
  obtain ⟨op_1, ho_1⟩ : ∃ x9 : Option Nat, q_openB bc BA = x9 := ⟨_, rfl⟩
  cases op_1 with
  | none =>
    refine W.eq (g2 := F0 m 4 ls [.null]) (by rw [ho_1] <;> rfl) ?_
    refine lv_astore_nN (lv' := [(2, .null), (0, .ref d), (1, .int sh)]) hx hb dX5_tellAround_4 rfl hl (by decide) rfl (fun ls hl => ?_)
    refine lv_aload_nN hx hb dX5_tellAround_5 rfl (lv_at hl 0 rfl) ?_
    refine lv_ifnullN (tgt := 18) hx hb dX5_tellAround_6 (by decide) ?_
    exact ck_vret po hx hb hr hlocks ⟨rfl, (Or.inl ⟨Or.inl ho_1, rfl⟩)⟩ (hP.part [0, 1] rfl) (hK.sub [0] rfl) (hD.part [0, 1] (by decide) rfl) hS (by decide) (by decide) dX5_tellAround_18
  | some a_1 =>
    refine W.eq (g2 := F0 m 4 ls [.ref a_1]) (by rw [ho_1] <;> rfl) ?_
    obtain ⟨i_a_1, hb_a_1⟩ := bOpen hB ho_1
    refine lv_astore_n (lv' := [(2, .ref a_1), (0, .ref d), (1, .int sh)]) hx hb dX5_tellAround_4 rfl hl (by decide) rfl (fun ls hl => ?_)
    refine lv_aload_n hx hb dX5_tellAround_5 rfl (lv_at hl 0 rfl) ?_
    refine lv_ifnull hx hb dX5_tellAround_6 ?_
    refine lv_iload_n hx hb dX5_tellAround_9 rfl (lv_at hl 2 rfl) ?_
    refine lv_if_ne (tgt := 18) hx hb dX5_tellAround_10 (by decide) (fun c_10 => ?_) (fun c_10 => ?_)
    · exact ck_vret po hx hb hr hlocks ⟨rfl, (Or.inl ⟨Or.inr c_10, rfl⟩)⟩ (hP.part [0, 1] rfl) (hK.sub [0] rfl) (hD.part [0, 1] (by decide) rfl) hS (by decide) (by decide) dX5_tellAround_18
    · have hP := br_P (X := [(d, .inr (4, [.ref fa, .int fc, .int cc, .ref ma, .ref da, .int pr, .ref ba, .int bc, .int nc, .int lf, .int mi, .ref tr, .ref wk, .ref sd])), (ba, .inl (cB, 40, .inr (.inr (.inr (.inr BA)))))]) hP hb_a_1
      have hD := br_D (X := [(d, .inr (4, [.ref fa, .int fc, .int cc, .ref ma, .ref da, .int pr, .ref ba, .int bc, .int nc, .int lf, .int mi, .ref tr, .ref wk, .ref sd])), (ba, .inl (cB, 40, .inr (.inr (.inr (.inr BA)))))]) hD hb_a_1
      have hP : va_P D vwCl ([(d, .inr (4, [.ref fa, .int fc, .int cc, .ref ma, .ref da, .int pr, .ref ba, .int bc, .int nc, .int lf, .int mi, .ref tr, .ref wk, .ref sd])), (ba, .inl (cB, 40, .inr (.inr (.inr (.inr BA))))), (a_1, .inr (0, [.int ((bTop bc BS).1), va_rf ((bTop bc BS).2.1), .int ((bTop bc BS).2.2.1), .int ((bTop bc BS).2.2.2.1), va_rf ((bTop bc BS).2.2.2.2)]))] ++ (po.eraseIdx i_a_1)) H := hP
      have hD : va_D _ ([(d, .inr (4, [.ref fa, .int fc, .int cc, .ref ma, .ref da, .int pr, .ref ba, .int bc, .int nc, .int lf, .int mi, .ref tr, .ref wk, .ref sd])), (ba, .inl (cB, 40, .inr (.inr (.inr (.inr BA))))), (a_1, .inr (0, [.int ((bTop bc BS).1), va_rf ((bTop bc BS).2.1), .int ((bTop bc BS).2.2.1), .int ((bTop bc BS).2.2.2.1), va_rf ((bTop bc BS).2.2.2.2)]))] ++ (po.eraseIdx i_a_1)) := hD
      refine lv_aload_n hx hb dX5_tellAround_13 rfl (lv_at hl 0 rfl) ?_
      refine lv_iconst (v := 1) hx hb dX5_tellAround_14 (by decide) ?_
      refine va_putN (ci := 0) (v := .int 1) (ty := .boolean) (C := RX0) (T := TX0) (N := 5) hx hb hts inG_X0 tyX0 tyX0_ok nmX0 hown hK hP hD hS 2 rfl rfl 3 (by decide) (hE.w tn_1_40 rfl) (fun _ h9 => h9) rfl (by decide +kernel) rfl rfl (Nat.le_of_ble_eq_true rfl) dX5_tellAround_15 (fun H locs hP hD hS => ?_)
      have hP : va_P D vwCl ([(d, .inr (4, [.ref fa, .int fc, .int cc, .ref ma, .ref da, .int pr, .ref ba, .int bc, .int nc, .int lf, .int mi, .ref tr, .ref wk, .ref sd])), (ba, .inl (cB, 40, .inr (.inr (.inr (.inr BA))))), (a_1, .inr (0, [.int ((bTop bc BS).1), va_rf ((bTop bc BS).2.1), .int ((bTop bc BS).2.2.1), .int 1, va_rf ((bTop bc BS).2.2.2.2)]))] ++ (po.eraseIdx i_a_1)) H := hP
      have hD : va_D _ ([(d, .inr (4, [.ref fa, .int fc, .int cc, .ref ma, .ref da, .int pr, .ref ba, .int bc, .int nc, .int lf, .int mi, .ref tr, .ref wk, .ref sd])), (ba, .inl (cB, 40, .inr (.inr (.inr (.inr BA))))), (a_1, .inr (0, [.int ((bTop bc BS).1), va_rf ((bTop bc BS).2.1), .int ((bTop bc BS).2.2.1), .int 1, va_rf ((bTop bc BS).2.2.2.2)]))] ++ (po.eraseIdx i_a_1)) := hD
      exact ck_vret (po.set i_a_1 (a_1, .inr (0, [.int ((bTop bc BS).1), va_rf ((bTop bc BS).2.1), .int ((bTop bc BS).2.2.1), .int 1, va_rf ((bTop bc BS).2.2.2.2)]))) hx hb hr hlocks ⟨rfl, (Or.inr ⟨c_10, a_1, i_a_1, ho_1, hb_a_1, rfl⟩)⟩ (gb_P (X := [(d, .inr (4, [.ref fa, .int fc, .int cc, .ref ma, .ref da, .int pr, .ref ba, .int bc, .int nc, .int lf, .int mi, .ref tr, .ref wk, .ref sd])), (ba, .inl (cB, 40, .inr (.inr (.inr (.inr BA)))))]) (c := (a_1, .inr (0, [.int ((bTop bc BS).1), va_rf ((bTop bc BS).2.1), .int ((bTop bc BS).2.2.1), .int 1, va_rf ((bTop bc BS).2.2.2.2)]))) (List.getElem?_eq_some_iff.mp hb_a_1).1 (hP.part [0, 1, 2] rfl)) (hK.sub [0] rfl) (gb_D (X := [(d, .inr (4, [.ref fa, .int fc, .int cc, .ref ma, .ref da, .int pr, .ref ba, .int bc, .int nc, .int lf, .int mi, .ref tr, .ref wk, .ref sd])), (ba, .inl (cB, 40, .inr (.inr (.inr (.inr BA)))))]) (c := (a_1, .inr (0, [.int ((bTop bc BS).1), va_rf ((bTop bc BS).2.1), .int ((bTop bc BS).2.2.1), .int 1, va_rf ((bTop bc BS).2.2.2.2)]))) (List.getElem?_eq_some_iff.mp hb_a_1).1 (hD.part [0, 1, 2] (by decide) rfl)) hS (by decide) (by decide) dX5_tellAround_18
