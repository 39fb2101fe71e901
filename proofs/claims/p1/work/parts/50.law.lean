theorem law_zz {s : State} {b : Nat} (htb0 : ∀ w ∈ lw_tbl, w.before #[Value.ref b] s = true) (hgv : (Jvm.Cond.and given_1 narrow_1).before #[Value.ref b] s = true) : zz (fun q : Nat => s.heap.size ≤ q) s s.heap :=
  ⟨vx_Zqof (htb0 _ (by decide +kernel)) (htb0 (.initialized Bundle.tN) (by decide +kernel)) (flat_of_before _ hgv _ (by decide +kernel)) (fun _ h => Nat.not_le.mpr h), vx_Zqof (htb0 _ (by decide +kernel)) (htb0 (.initialized Bundle.tN) (by decide +kernel)) (flat_of_before _ hgv _ (by decide +kernel)) (fun _ h => Nat.not_le.mpr h)⟩
theorem sw_24 {x : Int32} (h0 : ¬ x = 0) (h1 : ¬ x = 1) (h2 : ¬ x = 2) (h3 : ¬ x = 3) (h4 : ¬ x = 4) (h5 : ¬ x = 5) (h6 : ¬ x = 6) (h7 : ¬ x = 7) (h8 : ¬ x = 8) (h9 : ¬ x = 9) (h10 : ¬ x = 10) (h11 : ¬ x = 11) (h12 : ¬ x = 12) (h13 : ¬ x = 13) (h14 : ¬ x = 14) (h15 : ¬ x = 15) (h16 : ¬ x = 16) (h17 : ¬ x = 17) (h18 : ¬ x = 18) (h19 : ¬ x = 19) (h20 : ¬ x = 20) (h21 : ¬ x = 21) (h22 : ¬ x = 22) (h23 : ¬ x = 23) : x.toInt < 0 ∨ 23 < x.toInt := by
  have g0 := lv_neT (a := 0) h0 (by decide)
  have g1 := lv_neT (a := 1) h1 (by decide)
  have g2 := lv_neT (a := 2) h2 (by decide)
  have g3 := lv_neT (a := 3) h3 (by decide)
  have g4 := lv_neT (a := 4) h4 (by decide)
  have g5 := lv_neT (a := 5) h5 (by decide)
  have g6 := lv_neT (a := 6) h6 (by decide)
  have g7 := lv_neT (a := 7) h7 (by decide)
  have g8 := lv_neT (a := 8) h8 (by decide)
  have g9 := lv_neT (a := 9) h9 (by decide)
  have g10 := lv_neT (a := 10) h10 (by decide)
  have g11 := lv_neT (a := 11) h11 (by decide)
  have g12 := lv_neT (a := 12) h12 (by decide)
  have g13 := lv_neT (a := 13) h13 (by decide)
  have g14 := lv_neT (a := 14) h14 (by decide)
  have g15 := lv_neT (a := 15) h15 (by decide)
  have g16 := lv_neT (a := 16) h16 (by decide)
  have g17 := lv_neT (a := 17) h17 (by decide)
  have g18 := lv_neT (a := 18) h18 (by decide)
  have g19 := lv_neT (a := 19) h19 (by decide)
  have g20 := lv_neT (a := 20) h20 (by decide)
  have g21 := lv_neT (a := 21) h21 (by decide)
  have g22 := lv_neT (a := 22) h22 (by decide)
  have g23 := lv_neT (a := 23) h23 (by decide)
  omega
set_option maxHeartbeats 4000000 in
set_option maxRecDepth 100000 in
theorem whole_start {p : Program} {e : Env} {s : State} {m : MethodId} {below : List Frame} {meth : Method} {c : Code} (l : Launch) (hl0 : l.stackTraces = false) {b L : Nat} {xs : Nat → Int32} (hL : L ≤ 4) (C0 : lw_At p s m meth c b L xs) : W p l e room_1 s m #[Value.ref b] below meth c s.heap [] 0 0 (lw_Z below #[Value.ref b] s) (entryFrame m ([Value.ref b] : List Value).toArray 7) := by
  obtain ⟨hx, hb, hr, hml, hown, htb0, hX, hbl, hlocks, hgv⟩ := C0
  have hown : s.vm.findClass RL = some m.cls := hown
  have hA : ∀ q : Nat, s.heap.size ≤ q → (fun q : Nat => s.heap.size ≤ q) q := fun _ h => h
  have hbA : ¬ (fun q : Nat => s.heap.size ≤ q) b := Nat.not_le.mpr hbl
  have hE : ev s := ⟨s, b, State.WarmedH.refl s, htb0, hgv⟩
  have hts : ∀ w ∈ lw_G, w.before #[Value.ref b] s = true := hE.hts
  have hZ : zz (fun q : Nat => s.heap.size ≤ q) s s.heap := law_zz htb0 hgv
  obtain ⟨c0, iS0, hKn0⟩ := u_known (C := RX0) (T := TX0) (N := 5) (n := 5) hts inG_X0 (hts _ tw_1_28)
  obtain ⟨c1, iS1, hKn1⟩ := u_known (C := RX2) (T := TX2) (N := 3) (n := 3) hts inG_X2 (hts _ tw_1_76)
  obtain ⟨c2, iS2, hKn2⟩ := u_known (C := RX3) (T := TX3) (N := 4) (n := 4) hts inG_X3 (hts _ tw_3_44)
  obtain ⟨c3, iS3, hKn3⟩ := u_known (C := RX4) (T := TX4) (N := 3) (n := 3) hts inG_X4 (hts _ tw_1_56)
  obtain ⟨c4, iS4, hKn4⟩ := u_known (C := RX5) (T := TX5) (N := 14) (n := 14) hts inG_X5 (hts _ tw_1_17)
  obtain ⟨c5, iS5, hKn5⟩ := u_known (C := RX6) (T := TX6) (N := 39) (n := 39) hts inG_X6 (hts _ tw_4_18)
  obtain ⟨D, hKc⟩ : ∃ D : va_G, ∀ (k : Nat) (q : vw_C), vwCl[k]? = some q → u_Kn s q.1 q.2.1 q.2.2 (D.1 k) (D.2 k) := by
    refine ⟨(fun k => if k = 0 then c0 else if k = 1 then c1 else if k = 2 then c2 else if k = 3 then c3 else if k = 4 then c4 else c5, fun k => if k = 0 then iS0 else if k = 1 then iS1 else if k = 2 then iS2 else if k = 3 then iS3 else if k = 4 then iS4 else iS5), ?_⟩
    intro k q hq
    match k, hq with
    | 0, hq => cases hq; exact hKn0
    | 1, hq => cases hq; exact hKn1
    | 2, hq => cases hq; exact hKn2
    | 3, hq => cases hq; exact hKn3
    | 4, hq => cases hq; exact hKn4
    | 5, hq => cases hq; exact hKn5
    | k + 6, hq => simp [vwCl] at hq
  have hS : va_S (fun q : Nat => s.heap.size ≤ q) s.heap s.heap [] := va_S.rf
  have hK : va_K D vwCl [] s := ⟨hKc, fun k q h => by simp at h⟩
  have hP : va_P D vwCl [] s.heap := fun k q h => by simp at h
  have hD : va_D (fun q : Nat => s.heap.size ≤ q) [] := ⟨fun i j p q h => by simp at h, fun k q h => by simp at h⟩
  have hl := lv_entry ([.ref b]) (n := 7) (Nat.le_of_ble_eq_true rfl)
  rw [lg_entry_eq]
  generalize (lg_sl ([.ref b]) ++ List.replicate (7 - (lg_sl ([.ref b])).length) Slot.unset).toArray = ls at hl ⊢
  have hl : lv_has ls 7 [(0, .ref b)] := hl
  refine va_new (ci := 4) (fs := [.null, .int 0, .int 0, .null, .null, .int 0, .null, .int 0, .int 0, .int 0, .int 0, .null, .null, .null]) (C := RX5) (T := TX5) (N := 14) hx hb hts inG_X5 tyX5 tyX5_ok hown (hts _ tw_1_16) (hts _ tw_1_17) (hts _ tw_1_1) hK hP hD hS hA rfl (by decide) (by decide) (by decide) dL_law_0 (fun q_1 H hP hD hS => ?_)
  have hP : va_P D vwCl [(q_1, .inr (4, [.null, .int 0, .int 0, .null, .null, .int 0, .null, .int 0, .int 0, .int 0, .int 0, .null, .null, .null]))] H := hP
  have hD : va_D _ [(q_1, .inr (4, [.null, .int 0, .int 0, .null, .null, .int 0, .null, .int 0, .int 0, .int 0, .int 0, .null, .null, .null]))] := hD
  refine lv_dup hx hb dL_law_3 rfl ?_
  refine ck_run (wr := []) (va_runI (As := []) (rest := [.ref q_1]) ⟨hx, hb, hml, hown, hts⟩ (c_deskInit l D H.size q_1) (cw_I (n := 0) hts tw_1_18 tw_1_19 tw_1_1 tw_1_20 rfl (by decide +kernel) ⟨by decide, by decide⟩) ⟨pre.blind, fun U hU hW => ⟨rfl, pre.of (wc := [(q_1, .inr (4, [.null, .int 0, .int 0, .null, .null, .int 0, .null, .int 0, .int 0, .int 0, .int 0, .null, .null, .null]))]) (tysc := []) (tk := []) hP hD hK hS hA hE hZ [0] (by decide) rfl rfl rfl U hU hW⟩⟩ rfl rfl hl.1 rfl (lv_room (Nat.le_of_ble_eq_true rfl)) dL_law_4 ⟨by decide, by decide⟩) hP hD hK hS hA [0] [] rfl rfl (by decide) (by decide) (fun v u H locs hw hP hD hK9 hS => ?_)
  obtain ⟨fo_2, mn_3, df_4, bl_5, tr_6, wk_7, sd_8, wc_9, b0_10, cF_11, cI_12, cB_13, cW_14, gb_15, fw_16⟩ := u
  have hw : v = none ∧ gb_15 ((0 : Int32).toNatClampNeg) = some b0_10 := hw
  obtain ⟨rfl, hq_17⟩ := hw
  have hP : va_P D vwCl [(q_1, .inr (4, [.ref fo_2, .int 0, .int 0, .ref mn_3, .ref df_4, .int 0, .ref bl_5, .int 0, .int 0, .int 1, .int 0, .ref tr_6, .ref wk_7, .ref sd_8])), (fo_2, .inl (cF_11, 1000, .inr (.inr (.inr (.inr (fun _ => none)))))), (mn_3, .inl (cI_12, 30, .inl (fun _ => 0))), (bl_5, .inl (cB_13, 40, .inr (.inr (.inr (.inr gb_15))))), (b0_10, .inr (0, [.int 0, .null, .int 0, .int 0, .null])), (wk_7, .inr (3, [.ref wc_9, .int 1, .int 0])), (wc_9, .inl (cW_14, 512, .inl fw_16))] H := hP
  have hD : va_D _ [(q_1, .inr (4, [.ref fo_2, .int 0, .int 0, .ref mn_3, .ref df_4, .int 0, .ref bl_5, .int 0, .int 0, .int 1, .int 0, .ref tr_6, .ref wk_7, .ref sd_8])), (fo_2, .inl (cF_11, 1000, .inr (.inr (.inr (.inr (fun _ => none)))))), (mn_3, .inl (cI_12, 30, .inl (fun _ => 0))), (bl_5, .inl (cB_13, 40, .inr (.inr (.inr (.inr gb_15))))), (b0_10, .inr (0, [.int 0, .null, .int 0, .int 0, .null])), (wk_7, .inr (3, [.ref wc_9, .int 1, .int 0])), (wc_9, .inl (cW_14, 512, .inl fw_16))] := hD
  have hK : va_K D vwCl [(cF_11, .object RX2), (cI_12, .int), (cB_13, .object RX0), (cW_14, .int)] s := hK9.sub [0, 1, 2, 3] rfl
  refine W.eq (g2 := F0 m 7 ls [.ref q_1]) rfl ?_
  refine lv_astore_n (lv' := [(1, .ref q_1), (0, .ref b)]) hx hb dL_law_7 rfl hl (by decide) rfl (fun ls hl => ?_)
  refine va_new (ci := 5) (fs := [.int 0, .null, .null, .null, .null, .null, .null, .null, .null, .null, .int 0, .null, .int 0, .null, .int 0, .null, .int 0, .null, .null, .int 0, .null, .null, .null, .null, .null, .null, .null, .int 0, .null, .null, .null, .int 0, .null, .int 0, .int 0, .int 0, .int 0, .null, .int 0]) (C := RX6) (T := TX6) (N := 39) hx hb hts inG_X6 tyX6 tyX6_ok hown (hts _ tw_4_17) (hts _ tw_4_18) (hts _ tw_1_9) hK hP hD hS hA rfl (by decide) (by decide) (by decide) dL_law_8 (fun q_18 H hP hD hS => ?_)
  have hP : va_P D vwCl [(q_1, .inr (4, [.ref fo_2, .int 0, .int 0, .ref mn_3, .ref df_4, .int 0, .ref bl_5, .int 0, .int 0, .int 1, .int 0, .ref tr_6, .ref wk_7, .ref sd_8])), (fo_2, .inl (cF_11, 1000, .inr (.inr (.inr (.inr (fun _ => none)))))), (mn_3, .inl (cI_12, 30, .inl (fun _ => 0))), (bl_5, .inl (cB_13, 40, .inr (.inr (.inr (.inr gb_15))))), (b0_10, .inr (0, [.int 0, .null, .int 0, .int 0, .null])), (wk_7, .inr (3, [.ref wc_9, .int 1, .int 0])), (wc_9, .inl (cW_14, 512, .inl fw_16)), (q_18, .inr (5, [.int 0, .null, .null, .null, .null, .null, .null, .null, .null, .null, .int 0, .null, .int 0, .null, .int 0, .null, .int 0, .null, .null, .int 0, .null, .null, .null, .null, .null, .null, .null, .int 0, .null, .null, .null, .int 0, .null, .int 0, .int 0, .int 0, .int 0, .null, .int 0]))] H := hP
  have hD : va_D _ [(q_1, .inr (4, [.ref fo_2, .int 0, .int 0, .ref mn_3, .ref df_4, .int 0, .ref bl_5, .int 0, .int 0, .int 1, .int 0, .ref tr_6, .ref wk_7, .ref sd_8])), (fo_2, .inl (cF_11, 1000, .inr (.inr (.inr (.inr (fun _ => none)))))), (mn_3, .inl (cI_12, 30, .inl (fun _ => 0))), (bl_5, .inl (cB_13, 40, .inr (.inr (.inr (.inr gb_15))))), (b0_10, .inr (0, [.int 0, .null, .int 0, .int 0, .null])), (wk_7, .inr (3, [.ref wc_9, .int 1, .int 0])), (wc_9, .inl (cW_14, 512, .inl fw_16)), (q_18, .inr (5, [.int 0, .null, .null, .null, .null, .null, .null, .null, .null, .null, .int 0, .null, .int 0, .null, .int 0, .null, .int 0, .null, .null, .int 0, .null, .null, .null, .null, .null, .null, .null, .int 0, .null, .null, .null, .int 0, .null, .int 0, .int 0, .int 0, .int 0, .null, .int 0]))] := hD
  refine lv_dup hx hb dL_law_11 rfl ?_
  refine ck_run (wr := [(q_1, .inr (4, [.ref fo_2, .int 0, .int 0, .ref mn_3, .ref df_4, .int 0, .ref bl_5, .int 0, .int 0, .int 1, .int 0, .ref tr_6, .ref wk_7, .ref sd_8])), (fo_2, .inl (cF_11, 1000, .inr (.inr (.inr (.inr (fun _ => none)))))), (mn_3, .inl (cI_12, 30, .inl (fun _ => 0))), (bl_5, .inl (cB_13, 40, .inr (.inr (.inr (.inr gb_15))))), (b0_10, .inr (0, [.int 0, .null, .int 0, .int 0, .null])), (wk_7, .inr (3, [.ref wc_9, .int 1, .int 0])), (wc_9, .inl (cW_14, 512, .inl fw_16))]) (va_runI (As := []) (rest := [.ref q_18]) ⟨hx, hb, hml, hown, hts⟩ (m_init l D H.size q_18) (cw_I (n := 0) hts tw_4_19 tw_4_20 tw_1_9 tw_4_21 rfl (by decide +kernel) ⟨by decide, by decide⟩) ⟨pre.blind, fun U hU hW => ⟨rfl, pre.of (wc := [(q_18, .inr (5, [.int 0, .null, .null, .null, .null, .null, .null, .null, .null, .null, .int 0, .null, .int 0, .null, .int 0, .null, .int 0, .null, .null, .int 0, .null, .null, .null, .null, .null, .null, .null, .int 0, .null, .null, .null, .int 0, .null, .int 0, .int 0, .int 0, .int 0, .null, .int 0]))]) (tysc := []) (tk := []) hP hD hK hS hA hE hZ [7] (by decide) rfl rfl rfl U hU hW⟩⟩ rfl rfl hl.1 rfl (lv_room (Nat.le_of_ble_eq_true rfl)) dL_law_12 ⟨by decide, by decide⟩) hP hD hK hS hA [7] [0, 1, 2, 3, 4, 5, 6] rfl rfl (by decide) (by decide) (fun v u H locs hw hP hD hK9 hS => ?_)
  obtain ⟨a_19, k_20⟩ := u
  have hw : v = none := hw
  subst hw
  have hP : va_P D vwCl [(q_1, .inr (4, [.ref fo_2, .int 0, .int 0, .ref mn_3, .ref df_4, .int 0, .ref bl_5, .int 0, .int 0, .int 1, .int 0, .ref tr_6, .ref wk_7, .ref sd_8])), (fo_2, .inl (cF_11, 1000, .inr (.inr (.inr (.inr (fun _ => none)))))), (mn_3, .inl (cI_12, 30, .inl (fun _ => 0))), (bl_5, .inl (cB_13, 40, .inr (.inr (.inr (.inr gb_15))))), (b0_10, .inr (0, [.int 0, .null, .int 0, .int 0, .null])), (wk_7, .inr (3, [.ref wc_9, .int 1, .int 0])), (wc_9, .inl (cW_14, 512, .inl fw_16)), (q_18, .inr (5, [.int 0, .ref (a_19 0), .ref (a_19 1), .ref (a_19 2), .ref (a_19 3), .ref (a_19 4), .ref (a_19 5), .ref (a_19 6), .ref (a_19 7), .ref (a_19 8), .int 0, .ref (a_19 9), .int 0, .ref (a_19 10), .int 0, .ref (a_19 11), .int 0, .ref (a_19 12), .ref (a_19 13), .int 0, .ref (a_19 14), .ref (a_19 15), .ref (a_19 16), .ref (a_19 17), .ref (a_19 18), .ref (a_19 19), .ref (a_19 20), .int 0, .ref (a_19 21), .ref (a_19 22), .ref (a_19 23), .int 0, .ref (a_19 24), .int 0, .int 1, .int 0, .int 0, .ref (a_19 25), .int 0])), ((a_19 0), .inl ((k_20 0), 1024, .inl (fun _ => 0))), ((a_19 1), .inl ((k_20 1), 1024, .inl (fun _ => 0))), ((a_19 2), .inl ((k_20 2), 1024, .inl (fun _ => 0))), ((a_19 3), .inl ((k_20 3), 1024, .inl (fun _ => 0))), ((a_19 4), .inl ((k_20 4), 1024, .inl (fun _ => 0))), ((a_19 5), .inl ((k_20 5), 1024, .inl (fun _ => 0))), ((a_19 6), .inl ((k_20 6), 1024, .inl (fun _ => 0))), ((a_19 7), .inl ((k_20 7), 1024, .inl (fun _ => 0))), ((a_19 8), .inl ((k_20 8), 4096, .inl (fun _ => 0))), ((a_19 9), .inl ((k_20 9), 4096, .inl (fun _ => 0))), ((a_19 25), .inl ((k_20 25), 1000, .inl (fun _ => 0))), ((a_19 12), .inl ((k_20 12), 30, .inl (fun _ => 0))), ((a_19 14), .inl ((k_20 14), 40, .inl (fun _ => 0))), ((a_19 15), .inl ((k_20 15), 40, .inl (fun _ => 0))), ((a_19 19), .inl ((k_20 19), 40, .inl (fun _ => 0))), ((a_19 17), .inl ((k_20 17), 40, .inl (fun _ => 0)))] H := hP
  have hD : va_D _ [(q_1, .inr (4, [.ref fo_2, .int 0, .int 0, .ref mn_3, .ref df_4, .int 0, .ref bl_5, .int 0, .int 0, .int 1, .int 0, .ref tr_6, .ref wk_7, .ref sd_8])), (fo_2, .inl (cF_11, 1000, .inr (.inr (.inr (.inr (fun _ => none)))))), (mn_3, .inl (cI_12, 30, .inl (fun _ => 0))), (bl_5, .inl (cB_13, 40, .inr (.inr (.inr (.inr gb_15))))), (b0_10, .inr (0, [.int 0, .null, .int 0, .int 0, .null])), (wk_7, .inr (3, [.ref wc_9, .int 1, .int 0])), (wc_9, .inl (cW_14, 512, .inl fw_16)), (q_18, .inr (5, [.int 0, .ref (a_19 0), .ref (a_19 1), .ref (a_19 2), .ref (a_19 3), .ref (a_19 4), .ref (a_19 5), .ref (a_19 6), .ref (a_19 7), .ref (a_19 8), .int 0, .ref (a_19 9), .int 0, .ref (a_19 10), .int 0, .ref (a_19 11), .int 0, .ref (a_19 12), .ref (a_19 13), .int 0, .ref (a_19 14), .ref (a_19 15), .ref (a_19 16), .ref (a_19 17), .ref (a_19 18), .ref (a_19 19), .ref (a_19 20), .int 0, .ref (a_19 21), .ref (a_19 22), .ref (a_19 23), .int 0, .ref (a_19 24), .int 0, .int 1, .int 0, .int 0, .ref (a_19 25), .int 0])), ((a_19 0), .inl ((k_20 0), 1024, .inl (fun _ => 0))), ((a_19 1), .inl ((k_20 1), 1024, .inl (fun _ => 0))), ((a_19 2), .inl ((k_20 2), 1024, .inl (fun _ => 0))), ((a_19 3), .inl ((k_20 3), 1024, .inl (fun _ => 0))), ((a_19 4), .inl ((k_20 4), 1024, .inl (fun _ => 0))), ((a_19 5), .inl ((k_20 5), 1024, .inl (fun _ => 0))), ((a_19 6), .inl ((k_20 6), 1024, .inl (fun _ => 0))), ((a_19 7), .inl ((k_20 7), 1024, .inl (fun _ => 0))), ((a_19 8), .inl ((k_20 8), 4096, .inl (fun _ => 0))), ((a_19 9), .inl ((k_20 9), 4096, .inl (fun _ => 0))), ((a_19 25), .inl ((k_20 25), 1000, .inl (fun _ => 0))), ((a_19 12), .inl ((k_20 12), 30, .inl (fun _ => 0))), ((a_19 14), .inl ((k_20 14), 40, .inl (fun _ => 0))), ((a_19 15), .inl ((k_20 15), 40, .inl (fun _ => 0))), ((a_19 19), .inl ((k_20 19), 40, .inl (fun _ => 0))), ((a_19 17), .inl ((k_20 17), 40, .inl (fun _ => 0)))] := hD
  have hK : va_K D vwCl [(cF_11, .object RX2), (cI_12, .int), (cB_13, .object RX0), (cW_14, .int), ((k_20 0), .int), ((k_20 1), .int), ((k_20 2), .int), ((k_20 3), .int), ((k_20 4), .int), ((k_20 5), .int), ((k_20 6), .int), ((k_20 7), .int), ((k_20 8), .int), ((k_20 9), .int), ((k_20 25), .int), ((k_20 12), .int), ((k_20 14), .int), ((k_20 15), .int), ((k_20 19), .boolean), ((k_20 17), .int)] s := hK9.sub [0, 1, 2, 3, 4, 5, 6, 7, 8, 9, 10, 11, 12, 13, 14, 15, 16, 17, 18, 19] rfl
  refine W.eq (g2 := F0 m 15 ls [.ref q_18]) rfl ?_
  refine lv_astore_n (lv' := [(2, .ref q_18), (1, .ref q_1), (0, .ref b)]) hx hb dL_law_15 rfl hl (by decide) rfl (fun ls hl => ?_)
  refine lv_iconst (v := 1) hx hb dL_law_16 (by decide) ?_
  refine va_newa (atype := .long) (ty := .long) (a0 := (1, .inr (.inl (fun _ => 0)))) hx hb (hts _ tw_5_154) rfl hK hP hD hS hA (fun _ => rfl) (by decide) (by decide) (by decide) (by decide) (by decide) dL_law_17 (fun q_21 k_22 H hK hP hD hS => ?_)
  have hP : va_P D vwCl [(q_1, .inr (4, [.ref fo_2, .int 0, .int 0, .ref mn_3, .ref df_4, .int 0, .ref bl_5, .int 0, .int 0, .int 1, .int 0, .ref tr_6, .ref wk_7, .ref sd_8])), (fo_2, .inl (cF_11, 1000, .inr (.inr (.inr (.inr (fun _ => none)))))), (mn_3, .inl (cI_12, 30, .inl (fun _ => 0))), (bl_5, .inl (cB_13, 40, .inr (.inr (.inr (.inr gb_15))))), (b0_10, .inr (0, [.int 0, .null, .int 0, .int 0, .null])), (wk_7, .inr (3, [.ref wc_9, .int 1, .int 0])), (wc_9, .inl (cW_14, 512, .inl fw_16)), (q_18, .inr (5, [.int 0, .ref (a_19 0), .ref (a_19 1), .ref (a_19 2), .ref (a_19 3), .ref (a_19 4), .ref (a_19 5), .ref (a_19 6), .ref (a_19 7), .ref (a_19 8), .int 0, .ref (a_19 9), .int 0, .ref (a_19 10), .int 0, .ref (a_19 11), .int 0, .ref (a_19 12), .ref (a_19 13), .int 0, .ref (a_19 14), .ref (a_19 15), .ref (a_19 16), .ref (a_19 17), .ref (a_19 18), .ref (a_19 19), .ref (a_19 20), .int 0, .ref (a_19 21), .ref (a_19 22), .ref (a_19 23), .int 0, .ref (a_19 24), .int 0, .int 1, .int 0, .int 0, .ref (a_19 25), .int 0])), ((a_19 0), .inl ((k_20 0), 1024, .inl (fun _ => 0))), ((a_19 1), .inl ((k_20 1), 1024, .inl (fun _ => 0))), ((a_19 2), .inl ((k_20 2), 1024, .inl (fun _ => 0))), ((a_19 3), .inl ((k_20 3), 1024, .inl (fun _ => 0))), ((a_19 4), .inl ((k_20 4), 1024, .inl (fun _ => 0))), ((a_19 5), .inl ((k_20 5), 1024, .inl (fun _ => 0))), ((a_19 6), .inl ((k_20 6), 1024, .inl (fun _ => 0))), ((a_19 7), .inl ((k_20 7), 1024, .inl (fun _ => 0))), ((a_19 8), .inl ((k_20 8), 4096, .inl (fun _ => 0))), ((a_19 9), .inl ((k_20 9), 4096, .inl (fun _ => 0))), ((a_19 25), .inl ((k_20 25), 1000, .inl (fun _ => 0))), ((a_19 12), .inl ((k_20 12), 30, .inl (fun _ => 0))), ((a_19 14), .inl ((k_20 14), 40, .inl (fun _ => 0))), ((a_19 15), .inl ((k_20 15), 40, .inl (fun _ => 0))), ((a_19 19), .inl ((k_20 19), 40, .inl (fun _ => 0))), ((a_19 17), .inl ((k_20 17), 40, .inl (fun _ => 0))), (q_21, .inl (k_22, 1, .inr (.inl (fun _ => 0))))] H := hP
  have hD : va_D _ [(q_1, .inr (4, [.ref fo_2, .int 0, .int 0, .ref mn_3, .ref df_4, .int 0, .ref bl_5, .int 0, .int 0, .int 1, .int 0, .ref tr_6, .ref wk_7, .ref sd_8])), (fo_2, .inl (cF_11, 1000, .inr (.inr (.inr (.inr (fun _ => none)))))), (mn_3, .inl (cI_12, 30, .inl (fun _ => 0))), (bl_5, .inl (cB_13, 40, .inr (.inr (.inr (.inr gb_15))))), (b0_10, .inr (0, [.int 0, .null, .int 0, .int 0, .null])), (wk_7, .inr (3, [.ref wc_9, .int 1, .int 0])), (wc_9, .inl (cW_14, 512, .inl fw_16)), (q_18, .inr (5, [.int 0, .ref (a_19 0), .ref (a_19 1), .ref (a_19 2), .ref (a_19 3), .ref (a_19 4), .ref (a_19 5), .ref (a_19 6), .ref (a_19 7), .ref (a_19 8), .int 0, .ref (a_19 9), .int 0, .ref (a_19 10), .int 0, .ref (a_19 11), .int 0, .ref (a_19 12), .ref (a_19 13), .int 0, .ref (a_19 14), .ref (a_19 15), .ref (a_19 16), .ref (a_19 17), .ref (a_19 18), .ref (a_19 19), .ref (a_19 20), .int 0, .ref (a_19 21), .ref (a_19 22), .ref (a_19 23), .int 0, .ref (a_19 24), .int 0, .int 1, .int 0, .int 0, .ref (a_19 25), .int 0])), ((a_19 0), .inl ((k_20 0), 1024, .inl (fun _ => 0))), ((a_19 1), .inl ((k_20 1), 1024, .inl (fun _ => 0))), ((a_19 2), .inl ((k_20 2), 1024, .inl (fun _ => 0))), ((a_19 3), .inl ((k_20 3), 1024, .inl (fun _ => 0))), ((a_19 4), .inl ((k_20 4), 1024, .inl (fun _ => 0))), ((a_19 5), .inl ((k_20 5), 1024, .inl (fun _ => 0))), ((a_19 6), .inl ((k_20 6), 1024, .inl (fun _ => 0))), ((a_19 7), .inl ((k_20 7), 1024, .inl (fun _ => 0))), ((a_19 8), .inl ((k_20 8), 4096, .inl (fun _ => 0))), ((a_19 9), .inl ((k_20 9), 4096, .inl (fun _ => 0))), ((a_19 25), .inl ((k_20 25), 1000, .inl (fun _ => 0))), ((a_19 12), .inl ((k_20 12), 30, .inl (fun _ => 0))), ((a_19 14), .inl ((k_20 14), 40, .inl (fun _ => 0))), ((a_19 15), .inl ((k_20 15), 40, .inl (fun _ => 0))), ((a_19 19), .inl ((k_20 19), 40, .inl (fun _ => 0))), ((a_19 17), .inl ((k_20 17), 40, .inl (fun _ => 0))), (q_21, .inl (k_22, 1, .inr (.inl (fun _ => 0))))] := hD
  have hK : va_K D vwCl [(cF_11, .object RX2), (cI_12, .int), (cB_13, .object RX0), (cW_14, .int), ((k_20 0), .int), ((k_20 1), .int), ((k_20 2), .int), ((k_20 3), .int), ((k_20 4), .int), ((k_20 5), .int), ((k_20 6), .int), ((k_20 7), .int), ((k_20 8), .int), ((k_20 9), .int), ((k_20 25), .int), ((k_20 12), .int), ((k_20 14), .int), ((k_20 15), .int), ((k_20 19), .boolean), ((k_20 17), .int), (k_22, .long)] s := hK
  refine lv_astore_n (lv' := [(3, .ref q_21), (2, .ref q_18), (1, .ref q_1), (0, .ref b)]) hx hb dL_law_19 rfl hl (by decide) rfl (fun ls hl => ?_)
  refine lv_iconst (v := 0) hx hb dL_law_20 (by decide) ?_
  refine lv_istore (lv' := [(4, .int 0), (3, .ref q_21), (2, .ref q_18), (1, .ref q_1), (0, .ref b)]) hx hb dL_law_21 hl (by decide) rfl (fun ls hl => ?_)
  refine W.widen (k := 100) (n := 23000) (by decide) (by decide) ?_
  rcases (show L = 0 ∨ L = 1 ∨ L = 2 ∨ L = 3 ∨ L = 4 by omega) with rfl | rfl | rfl | rfl | rfl
  · refine lv_iload hx hb dL_law_23 (lv_at hl 0 rfl) ?_
    refine lv_aload_n hx hb dL_law_25 rfl (lv_at hl 4 rfl) ?_
    refine va_slen hx hb hX hbl hbA hS dL_law_26 ?_
    refine ck_top (y := 0) (by decide) ?_
    refine lv_iconst (v := 4) hx hb dL_law_27 (by decide) ?_
    refine lv_isub hx hb dL_law_28 ?_
    refine ck_top (y := (-4)) (by decide) ?_
    refine lv_icmp_gt (tgt := 1541) hx hb dL_law_29 (by decide) (fun _ => ?_) (fun c9 => absurd (by decide) c9)
    refine lv_iconst (v := 1) hx hb dL_law_1541 (by decide) ?_
    refine va_forget (fun q hq => hS.2.2 q hq) ?_
    refine W.widen (k := 600002) (n := 7302232) (by decide) (by decide) ?_
    exact lw_ret hx hb hr hlocks dL_law_1542
  · refine lv_iload hx hb dL_law_23 (lv_at hl 0 rfl) ?_
    refine lv_aload_n hx hb dL_law_25 rfl (lv_at hl 4 rfl) ?_
    refine va_slen hx hb hX hbl hbA hS dL_law_26 ?_
    refine ck_top (y := 1) (by decide) ?_
    refine lv_iconst (v := 4) hx hb dL_law_27 (by decide) ?_
    refine lv_isub hx hb dL_law_28 ?_
    refine ck_top (y := (-3)) (by decide) ?_
    refine lv_icmp_gt (tgt := 1541) hx hb dL_law_29 (by decide) (fun _ => ?_) (fun c9 => absurd (by decide) c9)
    refine lv_iconst (v := 1) hx hb dL_law_1541 (by decide) ?_
    refine va_forget (fun q hq => hS.2.2 q hq) ?_
    refine W.widen (k := 600002) (n := 7302232) (by decide) (by decide) ?_
    exact lw_ret hx hb hr hlocks dL_law_1542
  · refine lv_iload hx hb dL_law_23 (lv_at hl 0 rfl) ?_
    refine lv_aload_n hx hb dL_law_25 rfl (lv_at hl 4 rfl) ?_
    refine va_slen hx hb hX hbl hbA hS dL_law_26 ?_
    refine ck_top (y := 2) (by decide) ?_
    refine lv_iconst (v := 4) hx hb dL_law_27 (by decide) ?_
    refine lv_isub hx hb dL_law_28 ?_
    refine ck_top (y := (-2)) (by decide) ?_
    refine lv_icmp_gt (tgt := 1541) hx hb dL_law_29 (by decide) (fun _ => ?_) (fun c9 => absurd (by decide) c9)
    refine lv_iconst (v := 1) hx hb dL_law_1541 (by decide) ?_
    refine va_forget (fun q hq => hS.2.2 q hq) ?_
    refine W.widen (k := 600002) (n := 7302232) (by decide) (by decide) ?_
    exact lw_ret hx hb hr hlocks dL_law_1542
  · refine lv_iload hx hb dL_law_23 (lv_at hl 0 rfl) ?_
    refine lv_aload_n hx hb dL_law_25 rfl (lv_at hl 4 rfl) ?_
    refine va_slen hx hb hX hbl hbA hS dL_law_26 ?_
    refine ck_top (y := 3) (by decide) ?_
    refine lv_iconst (v := 4) hx hb dL_law_27 (by decide) ?_
    refine lv_isub hx hb dL_law_28 ?_
    refine ck_top (y := (-1)) (by decide) ?_
    refine lv_icmp_gt (tgt := 1541) hx hb dL_law_29 (by decide) (fun _ => ?_) (fun c9 => absurd (by decide) c9)
    refine lv_iconst (v := 1) hx hb dL_law_1541 (by decide) ?_
    refine va_forget (fun q hq => hS.2.2 q hq) ?_
    refine W.widen (k := 600002) (n := 7302232) (by decide) (by decide) ?_
    exact lw_ret hx hb hr hlocks dL_law_1542
  · refine lv_iload hx hb dL_law_23 (lv_at hl 0 rfl) ?_
    refine lv_aload_n hx hb dL_law_25 rfl (lv_at hl 4 rfl) ?_
    refine va_slen hx hb hX hbl hbA hS dL_law_26 ?_
    refine ck_top (y := 4) (by decide) ?_
    refine lv_iconst (v := 4) hx hb dL_law_27 (by decide) ?_
    refine lv_isub hx hb dL_law_28 ?_
    refine ck_top (y := 0) (by decide) ?_
    refine lv_icmp_gt (tgt := 1541) hx hb dL_law_29 (by decide) (fun c9 => absurd c9 (by decide)) (fun _ => ?_)
    refine lv_aload_n hx hb dL_law_32 rfl (lv_at hl 4 rfl) ?_
    refine lv_iload hx hb dL_law_33 (lv_at hl 0 rfl) ?_
    refine va_sld hx hb hX hbl hbA hS (vi (by decide)) dL_law_35 ?_
    refine ck_top (y := xs 0) rfl ?_
    refine lv_bipush (v := 31) hx hb dL_law_36 (by decide) ?_
    refine lv_iand hx hb dL_law_38 ?_
    refine lv_topi (fun z_23 ez_23 => ?_)
    by_cases sw_39_0 : z_23 = 0
    · subst sw_39_0
      refine lv_tableIn (off := 109) (tgt := 148) hx hb dL_law_39 (by decide) (by decide) rfl (by decide) ?_
      exact law_predicate hx hb hr hlocks hX hbl hbA hml hown hl0 hts hE hZ hA hq_17 hP hD hK hS (lv_sub hl [0, 1, 2, 3, 4] rfl)
    by_cases sw_39_1 : z_23 = 1
    · subst sw_39_1
      refine lv_tableIn (off := 165) (tgt := 204) hx hb dL_law_39 (by decide) (by decide) rfl (by decide) ?_
      exact law_define hx hb hr hlocks hX hbl hbA hml hown hl0 hts hE hZ hA hq_17 hP hD hK hS (lv_sub hl [0, 1, 2, 3, 4] rfl)
    by_cases sw_39_2 : z_23 = 2
    · subst sw_39_2
      refine lv_tableIn (off := 240) (tgt := 279) hx hb dL_law_39 (by decide) (by decide) rfl (by decide) ?_
      exact law_constant hx hb hr hlocks hX hbl hbA hml hown hl0 hts hE hZ hA hq_17 hP hD hK hS (lv_sub hl [0, 1, 2, 3, 4] rfl)
    by_cases sw_39_3 : z_23 = 3
    · subst sw_39_3
      refine lv_tableIn (off := 284) (tgt := 323) hx hb dL_law_39 (by decide) (by decide) rfl (by decide) ?_
      exact law_locus hx hb hr hlocks hX hbl hbA hml hown hl0 hts hE hZ hA hq_17 hP hD hK hS (lv_sub hl [0, 1, 2, 3, 4] rfl)
    by_cases sw_39_4 : z_23 = 4
    · subst sw_39_4
      refine lv_tableIn (off := 340) (tgt := 379) hx hb dL_law_39 (by decide) (by decide) rfl (by decide) ?_
      exact law_atom hx hb hr hlocks hX hbl hbA hml hown hl0 hts hE hZ hA hq_17 hP hD hK hS (lv_sub hl [0, 1, 2, 3, 4] rfl)
    by_cases sw_39_5 : z_23 = 5
    · subst sw_39_5
      refine lv_tableIn (off := 420) (tgt := 459) hx hb dL_law_39 (by decide) (by decide) rfl (by decide) ?_
      exact law_join hx hb hr hlocks hX hbl hbA hml hown hl0 hts hE hZ hA hq_17 hP hD hK hS (lv_sub hl [0, 1, 2, 3, 4] rfl)
    by_cases sw_39_6 : z_23 = 6
    · subst sw_39_6
      refine lv_tableIn (off := 500) (tgt := 539) hx hb dL_law_39 (by decide) (by decide) rfl (by decide) ?_
      exact law_bind hx hb hr hlocks hX hbl hbA hml hown hl0 hts hE hZ hA hq_17 hP hD hK hS (lv_sub hl [0, 1, 2, 3, 4] rfl)
    by_cases sw_39_7 : z_23 = 7
    · subst sw_39_7
      refine lv_tableIn (off := 596) (tgt := 635) hx hb dL_law_39 (by decide) (by decide) rfl (by decide) ?_
      exact law_proof hx hb hr hlocks hX hbl hbA hml hown hl0 hts hE hZ hA hq_17 hP hD hK hS (lv_sub hl [0, 1, 2, 3, 4] rfl)
    by_cases sw_39_8 : z_23 = 8
    · subst sw_39_8
      refine lv_tableIn (off := 652) (tgt := 691) hx hb dL_law_39 (by decide) (by decide) rfl (by decide) ?_
      exact law_now hx hb hr hlocks hX hbl hbA hml hown hl0 hts hE hZ hA hq_17 hP hD hK hS (lv_sub hl [0, 1, 2, 3, 4] rfl)
    by_cases sw_39_9 : z_23 = 9
    · subst sw_39_9
      refine lv_tableIn (off := 696) (tgt := 735) hx hb dL_law_39 (by decide) (by decide) rfl (by decide) ?_
      exact law_let hx hb hr hlocks hX hbl hbA hml hown hl0 hts hE hZ hA hq_17 hP hD hK hS (lv_sub hl [0, 1, 2, 3, 4] rfl)
    by_cases sw_39_10 : z_23 = 10
    · subst sw_39_10
      refine lv_tableIn (off := 740) (tgt := 779) hx hb dL_law_39 (by decide) (by decide) rfl (by decide) ?_
      exact law_fit hx hb hr hlocks hX hbl hbA hml hown hl0 hts hE hZ hA hq_17 hP hD hK hS (lv_sub hl [0, 1, 2, 3, 4] rfl)
    by_cases sw_39_11 : z_23 = 11
    · subst sw_39_11
      refine lv_tableIn (off := 753) (tgt := 792) hx hb dL_law_39 (by decide) (by decide) rfl (by decide) ?_
      exact law_assume hx hb hr hlocks hX hbl hbA hml hown hl0 hts hE hZ hA hq_17 hP hD hK hS (lv_sub hl [0, 1, 2, 3, 4] rfl)
    by_cases sw_39_12 : z_23 = 12
    · subst sw_39_12
      refine lv_tableIn (off := 816) (tgt := 855) hx hb dL_law_39 (by decide) (by decide) rfl (by decide) ?_
      exact law_thus hx hb hr hlocks hX hbl hbA hml hown hl0 hts hE hZ hA hq_17 hP hD hK hS (lv_sub hl [0, 1, 2, 3, 4] rfl)
    by_cases sw_39_13 : z_23 = 13
    · subst sw_39_13
      refine lv_tableIn (off := 879) (tgt := 918) hx hb dL_law_39 (by decide) (by decide) rfl (by decide) ?_
      exact law_take hx hb hr hlocks hX hbl hbA hml hown hl0 hts hE hZ hA hq_17 hP hD hK hS (lv_sub hl [0, 1, 2, 3, 4] rfl)
    by_cases sw_39_14 : z_23 = 14
    · subst sw_39_14
      refine lv_tableIn (off := 942) (tgt := 981) hx hb dL_law_39 (by decide) (by decide) rfl (by decide) ?_
      exact law_given hx hb hr hlocks hX hbl hbA hml hown hl0 hts hE hZ hA hq_17 hP hD hK hS (lv_sub hl [0, 1, 2, 3, 4] rfl)
    by_cases sw_39_15 : z_23 = 15
    · subst sw_39_15
      refine lv_tableIn (off := 1017) (tgt := 1056) hx hb dL_law_39 (by decide) (by decide) rfl (by decide) ?_
      exact law_cases hx hb hr hlocks hX hbl hbA hml hown hl0 hts hE hZ hA hq_17 hP hD hK hS (lv_sub hl [0, 1, 2, 3, 4] rfl)
    by_cases sw_39_16 : z_23 = 16
    · subst sw_39_16
      refine lv_tableIn (off := 1041) (tgt := 1080) hx hb dL_law_39 (by decide) (by decide) rfl (by decide) ?_
      exact law_suppose hx hb hr hlocks hX hbl hbA hml hown hl0 hts hE hZ hA hq_17 hP hD hK hS (lv_sub hl [0, 1, 2, 3, 4] rfl)
    by_cases sw_39_17 : z_23 = 17
    · subst sw_39_17
      refine lv_tableIn (off := 1097) (tgt := 1136) hx hb dL_law_39 (by decide) (by decide) rfl (by decide) ?_
      exact law_endc hx hb hr hlocks hX hbl hbA hml hown hl0 hts hE hZ hA hq_17 hP hD hK hS (lv_sub hl [0, 1, 2, 3, 4] rfl)
    by_cases sw_39_18 : z_23 = 18
    · subst sw_39_18
      refine lv_tableIn (off := 1141) (tgt := 1180) hx hb dL_law_39 (by decide) (by decide) rfl (by decide) ?_
      exact law_thesis hx hb hr hlocks hX hbl hbA hml hown hl0 hts hE hZ hA hq_17 hP hD hK hS (lv_sub hl [0, 1, 2, 3, 4] rfl)
    by_cases sw_39_19 : z_23 = 19
    · subst sw_39_19
      refine lv_tableIn (off := 1185) (tgt := 1224) hx hb dL_law_39 (by decide) (by decide) rfl (by decide) ?_
      exact law_ways hx hb hr hlocks hX hbl hbA hml hown hl0 hts hE hZ hA hq_17 hP hD hK hS (lv_sub hl [0, 1, 2, 3, 4] rfl)
    by_cases sw_39_20 : z_23 = 20
    · subst sw_39_20
      refine lv_tableIn (off := 1229) (tgt := 1268) hx hb dL_law_39 (by decide) (by decide) rfl (by decide) ?_
      exact law_about hx hb hr hlocks hX hbl hbA hml hown hl0 hts hE hZ hA hq_17 hP hD hK hS (lv_sub hl [0, 1, 2, 3, 4] rfl)
    by_cases sw_39_21 : z_23 = 21
    · subst sw_39_21
      refine lv_tableIn (off := 1297) (tgt := 1336) hx hb dL_law_39 (by decide) (by decide) rfl (by decide) ?_
      exact law_part hx hb hr hlocks hX hbl hbA hml hown hl0 hts hE hZ hA hq_17 hP hD hK hS (lv_sub hl [0, 1, 2, 3, 4] rfl)
    by_cases sw_39_22 : z_23 = 22
    · subst sw_39_22
      refine lv_tableIn (off := 1365) (tgt := 1404) hx hb dL_law_39 (by decide) (by decide) rfl (by decide) ?_
      exact law_alike hx hb hr hlocks hX hbl hbA hml hown hl0 hts hE hZ hA hq_17 hP hD hK hS (lv_sub hl [0, 1, 2, 3, 4] rfl)
    by_cases sw_39_23 : z_23 = 23
    · subst sw_39_23
      refine lv_tableIn (off := 1440) (tgt := 1479) hx hb dL_law_39 (by decide) (by decide) rfl (by decide) ?_
      exact law_count hx hb hr hlocks hX hbl hbA hml hown hl0 hts hE hZ hA hq_17 hP hD hK hS (lv_sub hl [0, 1, 2, 3, 4] rfl)
    refine lv_tableOut (tgt := 1535) hx hb dL_law_39 (sw_24 sw_39_0 sw_39_1 sw_39_2 sw_39_3 sw_39_4 sw_39_5 sw_39_6 sw_39_7 sw_39_8 sw_39_9 sw_39_10 sw_39_11 sw_39_12 sw_39_13 sw_39_14 sw_39_15 sw_39_16 sw_39_17 sw_39_18 sw_39_19 sw_39_20 sw_39_21 sw_39_22 sw_39_23) (by decide) ?_
    exact law_end hx hb hr hlocks hX hbl hbA hS (lv_sub hl [4, 0] rfl) (by decide) (by decide)
