set_option maxHeartbeats 4000000 in
set_option maxRecDepth 100000 in
theorem c_copyOf (l : Launch) (D : va_G) (sz : Nat) (a : Nat) (cR : ClassId) (f : Nat → Int32) (k : Int32) (hk : k_ok1 k) : cM l yJ7_copyOf_59c91 (.code yJ7_copyOf_59c91 cJ7_copyOf_59c91 3 (some (.array .int))) 12 340 1 100 [.ref a, .int k] D [(cR, .int)] [(a, .inl (cR, 512, .inl f))] sz (S := Nat) (fun v u => v = some (.ref u)) (fun u => [(a, .inl (cR, 512, .inl f)), (u, .inl (cR, k.toNatClampNeg, .inl (va_cpy f (fun _ => 0) ((0 : Int32).toNatClampNeg) ((0 : Int32).toNatClampNeg) (k.toNatClampNeg))))]) (fun u => [(cR, .int)]) := by
  refine cM_of (by decide) (Nat.le_of_ble_eq_true rfl) ?_
  intro p e s m below meth c ls hF hsz hP hK hD hE hZ hA hl
  obtain ⟨hx, hb, hr, hml, hown, hlocks, hnm, htb, hts⟩ := hF
  have hown : s.vm.findClass RJ7 = some m.cls := hown
  have hl : lv_has ls 3 [(0, .ref a), (1, .int k)] := hl
  have hS : va_S (va_A [(a, .inl (cR, 512, .inl f))] sz) s.heap s.heap [] := va_S.rf
  refine lv_iload_n hx hb dJ7_copyOf_59c91_0 rfl (lv_at hl 1 rfl) ?_
  refine lv_aload_n hx hb dJ7_copyOf_59c91_1 rfl (lv_at hl 0 rfl) ?_
  refine va_alen hx hb hK hP 0 0 rfl rfl (v := 512) (show Int32.ofNat 512 = 512 from by decide) dJ7_copyOf_59c91_2 ?_
  refine lv_icmp_ne (tgt := 14) hx hb dJ7_copyOf_59c91_3 (by decide) (fun _ => ?_) (fun c9 => absurd c9 (k_cl hk).2.2.2.1)
  refine lv_iload_n hx hb dJ7_copyOf_59c91_14 rfl (lv_at hl 1 rfl) ?_
  refine va_newa (atype := .int) (ty := .int) (a0 := (k.toNatClampNeg, .inl (fun _ => 0))) hx hb (hts _ tw_1_54) rfl hK hP hD hS hA (fun _ => rfl) (k_cl hk).2.2.1 rfl (by show _ * 4 ≤ _; have q9 := (k_cl hk).2.1; omega) (by decide) (by show 0 + _ ≤ 100; have q9 := (k_cl hk).2.1; omega) dJ7_copyOf_59c91_15 (fun q_1 k_2 H hK hP hD hS => ?_)
  have hP : va_P D vwCl [(a, .inl (cR, 512, .inl f)), (q_1, .inl (k_2, k.toNatClampNeg, .inl (fun _ => 0)))] H := hP
  have hD : va_D _ [(a, .inl (cR, 512, .inl f)), (q_1, .inl (k_2, k.toNatClampNeg, .inl (fun _ => 0)))] := hD
  have hK : va_K D vwCl [(cR, .int), (k_2, .int)] s := hK
  have ek : cR = k_2 := k_same hK 0 1 rfl rfl
  subst ek
  have hK : va_K D vwCl [(cR, .int)] s := hK.sub [0] rfl
  refine lv_astore_n (lv' := [(2, .ref q_1), (0, .ref a), (1, .int k)]) hx hb dJ7_copyOf_59c91_17 rfl hl (by decide) rfl (fun ls hl => ?_)
  refine lv_aload_n hx hb dJ7_copyOf_59c91_18 rfl (lv_at hl 1 rfl) ?_
  refine lv_iconst (v := 0) hx hb dJ7_copyOf_59c91_19 (by decide) ?_
  refine lv_aload_n hx hb dJ7_copyOf_59c91_20 rfl (lv_at hl 0 rfl) ?_
  refine lv_iconst (v := 0) hx hb dJ7_copyOf_59c91_21 (by decide) ?_
  refine lv_aload_n hx hb dJ7_copyOf_59c91_22 rfl (lv_at hl 1 rfl) ?_
  refine va_alen hx hb hK hP 0 0 rfl rfl (v := 512) (show Int32.ofNat 512 = 512 from by decide) dJ7_copyOf_59c91_23 ?_
  refine lv_iload_n hx hb dJ7_copyOf_59c91_24 rfl (lv_at hl 2 rfl) ?_
  refine va_mmin hx hb (hml.trans hl.1.symm) hown (hts _ tw_mml) (hts _ tw_mms) (hts _ tw_mmi) (hts _ tw_mmc) (by decide) (Nat.le_of_ble_eq_true rfl) (Nat.le_of_ble_eq_true rfl) (by show 0 + _ ≤ 100; have q9 := (k_cl hk).2.1; omega) dJ7_copyOf_59c91_25 ?_
  refine ck_top (y := k) (if_pos (k_cl hk).2.2.2.2) ?_
  refine va_copyi (ty := .int) hx hb (hml.trans hl.1.symm) hown (hts _ tw_acl) (hts _ tw_acn) (hts _ tw_acs) (hts _ tw_aci) hK hP hD hS 0 1 0 0 rfl rfl rfl rfl rfl (by decide) (by decide) (k_cl hk).2.2.1 (by have q9 := (k_cl hk).2.1; rw [sb_cl0]; omega) (by rw [sb_cl0]; omega) (fun _ _ => rfl) (by decide) (Nat.le_of_ble_eq_true rfl) dJ7_copyOf_59c91_28 (fun H locs hP hD hS => ?_)
  have hP : va_P D vwCl [(a, .inl (cR, 512, .inl f)), (q_1, .inl (cR, k.toNatClampNeg, .inl (va_cpy f (fun _ => 0) ((0 : Int32).toNatClampNeg) ((0 : Int32).toNatClampNeg) (k.toNatClampNeg))))] H := hP
  have hD : va_D _ [(a, .inl (cR, 512, .inl f)), (q_1, .inl (cR, k.toNatClampNeg, .inl (va_cpy f (fun _ => 0) ((0 : Int32).toNatClampNeg) ((0 : Int32).toNatClampNeg) (k.toNatClampNeg))))] := hD
  refine lv_aload_n hx hb dJ7_copyOf_59c91_31 rfl (lv_at hl 0 rfl) ?_
  exact ck_aret q_1 hx hb hr (Or.inr ⟨_, rfl⟩) (Or.inr ⟨_, rfl⟩) hlocks rfl (hP.sub [0, 1] rfl) (hK.sub [0] rfl) (hD.sub [0, 1] (by decide) rfl) hS (by decide) (by have q9 := (k_cl hk).2.1; omega) dJ7_copyOf_59c91_32
set_option maxHeartbeats 4000000 in
set_option maxRecDepth 100000 in
theorem c_toForm (l : Launch) (D : va_G) (sz : Nat) (r rc : Nat) (cR : ClassId) (f : Nat → Int32) (n z : Int32) (hk : k_ok1 n) : cM l yX4_toForm (.code yX4_toForm cX4_toForm 1 (some (.object "ThesisDesk$Form"))) 16 480 2 103 [.ref r] D [(cR, .int)] [(r, .inr (3, [.ref rc, .int n, .int z])), (rc, .inl (cR, 512, .inl f))] sz (S := Nat × Nat) (fun v u => v = some (.ref u.1)) (fun u => [(r, .inr (3, [.ref rc, .int n, .int z])), (rc, .inl (cR, 512, .inl f)), (u.1, .inr (1, [.ref u.2, .int (fm_whole (va_cpy f (fun _ => 0) ((0 : Int32).toNatClampNeg) ((0 : Int32).toNatClampNeg) (n.toNatClampNeg)) n.toNatClampNeg), .int ((fm (va_cpy f (fun _ => 0) ((0 : Int32).toNatClampNeg) ((0 : Int32).toNatClampNeg) (n.toNatClampNeg)) n.toNatClampNeg).2)])), (u.2, .inl (cR, n.toNatClampNeg, .inl (va_cpy f (fun _ => 0) ((0 : Int32).toNatClampNeg) ((0 : Int32).toNatClampNeg) (n.toNatClampNeg))))]) (fun u => [(cR, .int)]) := by
  refine cM_of (by decide) (Nat.le_of_ble_eq_true rfl) ?_
  intro p e s m below meth c ls hF hsz hP hK hD hE hZ hA hl
  obtain ⟨hx, hb, hr, hml, hown, hlocks, hnm, htb, hts⟩ := hF
  have hown : s.vm.findClass RX4 = some m.cls := hown
  have hl : lv_has ls 1 [(0, .ref r)] := hl
  have hS : va_S (va_A [(r, .inr (3, [.ref rc, .int n, .int z])), (rc, .inl (cR, 512, .inl f))] sz) s.heap s.heap [] := va_S.rf
  refine va_new (ci := 1) (fs := [.null, .int 0, .int 0]) (C := RX2) (T := TX2) (N := 3) hx hb hts inG_X2 tyX2 tyX2_ok hown (hts _ tw_1_75) (hts _ tw_1_76) (hts _ tw_1_4) hK hP hD hS hA rfl (by decide) (by decide) (by decide) dX4_toForm_0 (fun q_1 H hP hD hS => ?_)
  have hP : va_P D vwCl [(r, .inr (3, [.ref rc, .int n, .int z])), (rc, .inl (cR, 512, .inl f)), (q_1, .inr (1, [.null, .int 0, .int 0]))] H := hP
  have hD : va_D _ [(r, .inr (3, [.ref rc, .int n, .int z])), (rc, .inl (cR, 512, .inl f)), (q_1, .inr (1, [.null, .int 0, .int 0]))] := hD
  refine lv_dup hx hb dX4_toForm_3 rfl ?_
  refine lv_aload_n hx hb dX4_toForm_4 rfl (lv_at hl 0 rfl) ?_
  refine va_get (ci := 3) (v := .ref rc) (C := RX4) (T := TX4) (N := 3) hx hb hts inG_X4 hown hK hP 0 rfl rfl 0 (by decide) (hts _ tw_1_61) (fun _ h9 => h9) rfl dX4_toForm_5 ?_
  refine lv_aload_n hx hb dX4_toForm_8 rfl (lv_at hl 0 rfl) ?_
  refine va_get (ci := 3) (v := .int n) (C := RX4) (T := TX4) (N := 3) hx hb hts inG_X4 hown hK hP 0 rfl rfl 1 (by decide) (hts _ tw_1_62) (fun _ h9 => h9) rfl dX4_toForm_9 ?_
  refine ck_run (wr := [(r, .inr (3, [.ref rc, .int n, .int z])), (q_1, .inr (1, [.null, .int 0, .int 0]))]) (va_runS (As := [.ref rc, .int n]) (rest := [.ref q_1, .ref q_1]) ⟨hx, hb, hml, hown, hts⟩ (c_copyOf l D H.size rc cR f n hk) (cw_S (n := 2) hts tw_1_77 tw_1_78 tw_1_5 tw_1_79 (by decide +kernel) ⟨by decide, by decide⟩) ⟨pre.blind, fun U hU hW => ⟨rfl, pre.of (wc := [(rc, .inl (cR, 512, .inl f))]) (tysc := [(cR, .int)]) (tk := [0]) hP hD hK hS hA hE hZ [1] (by decide) rfl rfl rfl U hU hW⟩⟩ rfl rfl hl.1 rfl (lv_room (Nat.le_of_ble_eq_true rfl)) dX4_toForm_12 ⟨by decide, by decide⟩) hP hD hK hS hA [1] [0, 2] rfl rfl (by decide) (by decide) (fun v u H locs hw hP hD hK9 hS => ?_)
  obtain ⟨q_2, rfl⟩ : ∃ z, z = u := ⟨_, rfl⟩
  have hw : v = some (.ref q_2) := hw
  subst hw
  have hP : va_P D vwCl [(r, .inr (3, [.ref rc, .int n, .int z])), (q_1, .inr (1, [.null, .int 0, .int 0])), (rc, .inl (cR, 512, .inl f)), (q_2, .inl (cR, n.toNatClampNeg, .inl (va_cpy f (fun _ => 0) ((0 : Int32).toNatClampNeg) ((0 : Int32).toNatClampNeg) (n.toNatClampNeg))))] H := hP
  have hD : va_D _ [(r, .inr (3, [.ref rc, .int n, .int z])), (q_1, .inr (1, [.null, .int 0, .int 0])), (rc, .inl (cR, 512, .inl f)), (q_2, .inl (cR, n.toNatClampNeg, .inl (va_cpy f (fun _ => 0) ((0 : Int32).toNatClampNeg) ((0 : Int32).toNatClampNeg) (n.toNatClampNeg))))] := hD
  refine W.eq (g2 := F0 m 15 ls [.ref q_2, .ref q_1, .ref q_1]) rfl ?_
  refine ck_run (wr := [(r, .inr (3, [.ref rc, .int n, .int z])), (rc, .inl (cR, 512, .inl f))]) (va_runI (As := [.ref q_2]) (rest := [.ref q_1]) ⟨hx, hb, hml, hown, hts⟩ (c_formInit l D H.size q_1 q_2 cR n.toNatClampNeg (va_cpy f (fun _ => 0) ((0 : Int32).toNatClampNeg) ((0 : Int32).toNatClampNeg) (n.toNatClampNeg)) (by have q9 := (k_cl hk).2.1; omega)) (cw_I (n := 1) hts tw_1_93 tw_1_94 tw_1_4 tw_1_95 rfl (by decide +kernel) ⟨by decide, by decide⟩) ⟨pre.blind, fun U hU hW => ⟨rfl, pre.of (wc := [(q_1, .inr (1, [.null, .int 0, .int 0])), (q_2, .inl (cR, n.toNatClampNeg, .inl (va_cpy f (fun _ => 0) ((0 : Int32).toNatClampNeg) ((0 : Int32).toNatClampNeg) (n.toNatClampNeg))))]) (tysc := [(cR, .int)]) (tk := [0]) hP hD hK hS hA hE hZ [1, 3] (by decide) rfl rfl rfl U hU hW⟩⟩ rfl rfl hl.1 rfl (lv_room (Nat.le_of_ble_eq_true rfl)) dX4_toForm_15 ⟨by decide, by decide⟩) hP hD hK hS hA [1, 3] [0, 2] rfl rfl (by decide) (by decide) (fun v u H locs hw hP hD hK9 hS => ?_)
  have hw : v = none := hw
  subst hw
  have hP : va_P D vwCl [(r, .inr (3, [.ref rc, .int n, .int z])), (rc, .inl (cR, 512, .inl f)), (q_1, .inr (1, [.ref q_2, .int (fm_whole (va_cpy f (fun _ => 0) ((0 : Int32).toNatClampNeg) ((0 : Int32).toNatClampNeg) (n.toNatClampNeg)) n.toNatClampNeg), .int ((fm (va_cpy f (fun _ => 0) ((0 : Int32).toNatClampNeg) ((0 : Int32).toNatClampNeg) (n.toNatClampNeg)) n.toNatClampNeg).2)])), (q_2, .inl (cR, n.toNatClampNeg, .inl (va_cpy f (fun _ => 0) ((0 : Int32).toNatClampNeg) ((0 : Int32).toNatClampNeg) (n.toNatClampNeg))))] H := hP
  have hD : va_D _ [(r, .inr (3, [.ref rc, .int n, .int z])), (rc, .inl (cR, 512, .inl f)), (q_1, .inr (1, [.ref q_2, .int (fm_whole (va_cpy f (fun _ => 0) ((0 : Int32).toNatClampNeg) ((0 : Int32).toNatClampNeg) (n.toNatClampNeg)) n.toNatClampNeg), .int ((fm (va_cpy f (fun _ => 0) ((0 : Int32).toNatClampNeg) ((0 : Int32).toNatClampNeg) (n.toNatClampNeg)) n.toNatClampNeg).2)])), (q_2, .inl (cR, n.toNatClampNeg, .inl (va_cpy f (fun _ => 0) ((0 : Int32).toNatClampNeg) ((0 : Int32).toNatClampNeg) (n.toNatClampNeg))))] := hD
  refine W.eq (g2 := F0 m 18 ls [.ref q_1]) rfl ?_
  exact ck_aret ⟨q_1, q_2⟩ hx hb hr (Or.inl ⟨_, rfl⟩) (Or.inr ⟨_, rfl⟩) hlocks rfl (hP.sub [0, 1, 2, 3] rfl) (hK.sub [0] rfl) (hD.sub [0, 1, 2, 3] (by decide) rfl) hS (by decide) (by decide) dX4_toForm_18
