set_option maxHeartbeats 4000000 in
set_option maxRecDepth 100000 in
theorem c_rowInit (l : Launch) (D : va_G) (sz : Nat) (r : Nat) : cM l yX4_init (.code yX4_init cX4_init 1 none) 10 270 1 512 [.ref r] D [] [(r, .inr (3, [.null, .int 0, .int 0]))] sz (S := Nat × ClassId) (fun v u => v = none) (fun u => [(r, .inr (3, [.ref u.1, .int 1, .int 0])), (u.1, .inl (u.2, 512, .inl (upd (fun _ => 0) ((0 : Int32).toNatClampNeg) 3)))]) (fun u => [(u.2, .int)]) := by
  refine cM_of (by decide) (Nat.le_of_ble_eq_true rfl) ?_
  intro p e s m below meth c ls hF hsz hP hK hD hE hZ hA hl
  obtain ⟨hx, hb, hr, hml, hown, hlocks, hnm, htb, hts⟩ := hF
  have hown : s.vm.findClass RX4 = some m.cls := hown
  have hl : lv_has ls 1 [(0, .ref r)] := hl
  have hS : va_S (va_A [(r, .inr (3, [.null, .int 0, .int 0]))] sz) s.heap s.heap [] := va_S.rf
  refine lv_aload_n hx hb dX4_init_0 rfl (lv_at hl 0 rfl) ?_
  refine W.objInit hx hb hown (hts _ tw_1_60) (hts _ tw_oi) (hts _ tw_oc) rfl (by rw [hml]; exact hl.1) rfl dX4_init_1 (Nat.le_of_ble_eq_true rfl) (Nat.le_of_ble_eq_true rfl) ?_
  refine W.eq (g2 := F0 m 4 ls []) rfl ?_
  refine lv_aload_n hx hb dX4_init_4 rfl (lv_at hl 0 rfl) ?_
  refine lv_sipush (v := 512) hx hb dX4_init_5 (by decide) ?_
  refine va_newa (atype := .int) (ty := .int) (a0 := (512, .inl (fun _ => 0))) hx hb (hts _ tw_1_54) rfl hK hP hD hS hA (fun _ => rfl) (by decide) (by decide) (by decide) (by decide) (by decide) dX4_init_8 (fun q_1 k_2 H hK hP hD hS => ?_)
  have hP : va_P D vwCl [(r, .inr (3, [.null, .int 0, .int 0])), (q_1, .inl (k_2, 512, .inl (fun _ => 0)))] H := hP
  have hD : va_D _ [(r, .inr (3, [.null, .int 0, .int 0])), (q_1, .inl (k_2, 512, .inl (fun _ => 0)))] := hD
  have hK : va_K D vwCl [(k_2, .int)] s := hK
  refine va_putF (ci := 3) (v := .ref q_1) (ty := .array .int) (C := RX4) (T := TX4) (N := 3) hx hb hts inG_X4 tyX4 tyX4_ok nmX4 hown hK hP hD hS 0 rfl rfl 0 (by decide) (hts _ tw_1_61) (fun _ h9 => h9) rfl hnm rfl (by decide +kernel) rfl rfl (Nat.le_of_ble_eq_true rfl) dX4_init_10 (fun H locs hP hD hS => ?_)
  have hP : va_P D vwCl [(r, .inr (3, [.ref q_1, .int 0, .int 0])), (q_1, .inl (k_2, 512, .inl (fun _ => 0)))] H := hP
  have hD : va_D _ [(r, .inr (3, [.ref q_1, .int 0, .int 0])), (q_1, .inl (k_2, 512, .inl (fun _ => 0)))] := hD
  refine lv_aload_n hx hb dX4_init_13 rfl (lv_at hl 0 rfl) ?_
  refine va_get (ci := 3) (v := .ref q_1) (C := RX4) (T := TX4) (N := 3) hx hb hts inG_X4 hown hK hP 0 rfl rfl 0 (by decide) (hts _ tw_1_61) (fun _ h9 => h9) rfl dX4_init_14 ?_
  refine lv_iconst (v := 0) hx hb dX4_init_17 (by decide) ?_
  refine lv_iconst (v := 3) hx hb dX4_init_18 (by decide) ?_
  refine va_iast hx hb hK hP hD hS 1 0 rfl rfl (vi (by decide)) dX4_init_19 (fun H locs hP hD hS => ?_)
  have hP : va_P D vwCl [(r, .inr (3, [.ref q_1, .int 0, .int 0])), (q_1, .inl (k_2, 512, .inl (upd (fun _ => 0) ((0 : Int32).toNatClampNeg) 3)))] H := hP
  have hD : va_D _ [(r, .inr (3, [.ref q_1, .int 0, .int 0])), (q_1, .inl (k_2, 512, .inl (upd (fun _ => 0) ((0 : Int32).toNatClampNeg) 3)))] := hD
  refine lv_aload_n hx hb dX4_init_20 rfl (lv_at hl 0 rfl) ?_
  refine lv_iconst (v := 1) hx hb dX4_init_21 (by decide) ?_
  refine va_put (ci := 3) (v := .int 1) (ty := .int) (C := RX4) (T := TX4) (N := 3) hx hb hts inG_X4 tyX4 tyX4_ok nmX4 hown hK hP hD hS 0 rfl rfl 1 (by decide) (hts _ tw_1_62) (fun _ h9 => h9) rfl (by decide +kernel) rfl rfl (Nat.le_of_ble_eq_true rfl) dX4_init_22 (fun H locs hP hD hS => ?_)
  have hP : va_P D vwCl [(r, .inr (3, [.ref q_1, .int 1, .int 0])), (q_1, .inl (k_2, 512, .inl (upd (fun _ => 0) ((0 : Int32).toNatClampNeg) 3)))] H := hP
  have hD : va_D _ [(r, .inr (3, [.ref q_1, .int 1, .int 0])), (q_1, .inl (k_2, 512, .inl (upd (fun _ => 0) ((0 : Int32).toNatClampNeg) 3)))] := hD
  exact ck_vret ⟨q_1, k_2⟩ hx hb hr hlocks rfl (hP.sub [0, 1] rfl) (hK.sub [0] rfl) (hD.sub [0, 1] (by decide) rfl) hS (by decide) (by decide) dX4_init_25
set_option maxHeartbeats 4000000 in
set_option maxRecDepth 100000 in
theorem c_setOnly (l : Launch) (D : va_G) (sz : Nat) (wk wc : Nat) (cI : ClassId) (f : Nat → Int32) (z1 z2 a : Int32) : cM l yX4_setOnly (.code yX4_setOnly cX4_setOnly 2 none) 10 270 0 0 [.ref wk, .int a] D [(cI, .int)] [(wk, .inr (3, [.ref wc, .int z1, .int z2])), (wc, .inl (cI, 512, .inl f))] sz (S := Unit) (fun v _ => v = none) (fun _ => [(wk, .inr (3, [.ref wc, .int 1, .int 0])), (wc, .inl (cI, 512, .inl (upd f ((0 : Int32).toNatClampNeg) a)))]) (fun _ => [(cI, .int)]) := by
  refine cM_of (by decide) (Nat.le_of_ble_eq_true rfl) ?_
  intro p e s m below meth c ls hF hsz hP hK hD hE hZ hA hl
  obtain ⟨hx, hb, hr, hml, hown, hlocks, hnm, htb, hts⟩ := hF
  have hown : s.vm.findClass RX4 = some m.cls := hown
  have hl : lv_has ls 2 [(0, .ref wk), (1, .int a)] := hl
  have hS : va_S (va_A [(wk, .inr (3, [.ref wc, .int z1, .int z2])), (wc, .inl (cI, 512, .inl f))] sz) s.heap s.heap [] := va_S.rf
  refine lv_aload_n hx hb dX4_setOnly_0 rfl (lv_at hl 0 rfl) ?_
  refine va_get (ci := 3) (v := .ref wc) (C := RX4) (T := TX4) (N := 3) hx hb hts inG_X4 hown hK hP 0 rfl rfl 0 (by decide) (hts _ tw_1_61) (fun _ h9 => h9) rfl dX4_setOnly_1 ?_
  refine lv_iconst (v := 0) hx hb dX4_setOnly_4 (by decide) ?_
  refine lv_iload_n hx hb dX4_setOnly_5 rfl (lv_at hl 1 rfl) ?_
  refine va_iast hx hb hK hP hD hS 1 0 rfl rfl (vi (by decide)) dX4_setOnly_6 (fun H locs hP hD hS => ?_)
  have hP : va_P D vwCl [(wk, .inr (3, [.ref wc, .int z1, .int z2])), (wc, .inl (cI, 512, .inl (upd f ((0 : Int32).toNatClampNeg) a)))] H := hP
  have hD : va_D _ [(wk, .inr (3, [.ref wc, .int z1, .int z2])), (wc, .inl (cI, 512, .inl (upd f ((0 : Int32).toNatClampNeg) a)))] := hD
  refine lv_aload_n hx hb dX4_setOnly_7 rfl (lv_at hl 0 rfl) ?_
  refine lv_iconst (v := 1) hx hb dX4_setOnly_8 (by decide) ?_
  refine va_put (ci := 3) (v := .int 1) (ty := .int) (C := RX4) (T := TX4) (N := 3) hx hb hts inG_X4 tyX4 tyX4_ok nmX4 hown hK hP hD hS 0 rfl rfl 1 (by decide) (hts _ tw_1_62) (fun _ h9 => h9) rfl (by decide +kernel) rfl rfl (Nat.le_of_ble_eq_true rfl) dX4_setOnly_9 (fun H locs hP hD hS => ?_)
  have hP : va_P D vwCl [(wk, .inr (3, [.ref wc, .int 1, .int z2])), (wc, .inl (cI, 512, .inl (upd f ((0 : Int32).toNatClampNeg) a)))] H := hP
  have hD : va_D _ [(wk, .inr (3, [.ref wc, .int 1, .int z2])), (wc, .inl (cI, 512, .inl (upd f ((0 : Int32).toNatClampNeg) a)))] := hD
  refine lv_aload_n hx hb dX4_setOnly_12 rfl (lv_at hl 0 rfl) ?_
  refine lv_iconst (v := 0) hx hb dX4_setOnly_13 (by decide) ?_
  refine va_put (ci := 3) (v := .int 0) (ty := .boolean) (C := RX4) (T := TX4) (N := 3) hx hb hts inG_X4 tyX4 tyX4_ok nmX4 hown hK hP hD hS 0 rfl rfl 2 (by decide) (hts _ tw_1_63) (fun _ h9 => h9) rfl (by decide +kernel) rfl rfl (Nat.le_of_ble_eq_true rfl) dX4_setOnly_14 (fun H locs hP hD hS => ?_)
  have hP : va_P D vwCl [(wk, .inr (3, [.ref wc, .int 1, .int 0])), (wc, .inl (cI, 512, .inl (upd f ((0 : Int32).toNatClampNeg) a)))] H := hP
  have hD : va_D _ [(wk, .inr (3, [.ref wc, .int 1, .int 0])), (wc, .inl (cI, 512, .inl (upd f ((0 : Int32).toNatClampNeg) a)))] := hD
  exact ck_vret () hx hb hr hlocks rfl (hP.sub [0, 1] rfl) (hK.sub [0] rfl) (hD.sub [0, 1] (by decide) rfl) hS (by decide) (by decide) dX4_setOnly_17
set_option maxHeartbeats 4000000 in
set_option maxRecDepth 100000 in
theorem c_tooLarge (l : Launch) (D : va_G) (sz : Nat) (wk wc : Nat) : cM l yX4_isTooLarge (.code yX4_isTooLarge cX4_isTooLarge 1 (some .boolean)) 10 270 0 0 [.ref wk] D [] [(wk, .inr (3, [.ref wc, .int 1, .int 0]))] sz (S := Unit) (fun v _ => v = some (.int 0)) (fun _ => [(wk, .inr (3, [.ref wc, .int 1, .int 0]))]) (fun _ => []) := by
  refine cM_of (by decide) (Nat.le_of_ble_eq_true rfl) ?_
  intro p e s m below meth c ls hF hsz hP hK hD hE hZ hA hl
  obtain ⟨hx, hb, hr, hml, hown, hlocks, hnm, htb, hts⟩ := hF
  have hown : s.vm.findClass RX4 = some m.cls := hown
  have hl : lv_has ls 1 [(0, .ref wk)] := hl
  have hS : va_S (va_A [(wk, .inr (3, [.ref wc, .int 1, .int 0]))] sz) s.heap s.heap [] := va_S.rf
  refine lv_aload_n hx hb dX4_isTooLarge_0 rfl (lv_at hl 0 rfl) ?_
  refine va_get (ci := 3) (v := .int 0) (C := RX4) (T := TX4) (N := 3) hx hb hts inG_X4 hown hK hP 0 rfl rfl 2 (by decide) (hts _ tw_1_63) (fun _ h9 => h9) rfl dX4_isTooLarge_1 ?_
  refine lv_if_ne (tgt := 16) hx hb dX4_isTooLarge_4 (by decide) (fun c9 => absurd (by decide) c9) (fun _ => ?_)
  refine lv_aload_n hx hb dX4_isTooLarge_7 rfl (lv_at hl 0 rfl) ?_
  refine va_get (ci := 3) (v := .int 1) (C := RX4) (T := TX4) (N := 3) hx hb hts inG_X4 hown hK hP 0 rfl rfl 1 (by decide) (hts _ tw_1_62) (fun _ h9 => h9) rfl dX4_isTooLarge_8 ?_
  refine lv_bipush (v := 100) hx hb dX4_isTooLarge_11 (by decide) ?_
  refine lv_icmp_le (tgt := 20) hx hb dX4_isTooLarge_13 (by decide) (fun _ => ?_) (fun c9 => absurd (by decide) c9)
  refine lv_iconst (v := 0) hx hb dX4_isTooLarge_20 (by decide) ?_
  exact ck_iret () hx hb hr rfl hlocks rfl (hP.sub [0] rfl) (hK.sub [] rfl) (hD.sub [0] (by decide) rfl) hS (by decide) (by decide) dX4_isTooLarge_21
set_option maxHeartbeats 4000000 in
set_option maxRecDepth 100000 in
theorem c_copyOf (l : Launch) (D : va_G) (sz : Nat) (a : Nat) (cI : ClassId) (f : Nat → Int32) : cM l yJ7_copyOf_59c91 (.code yJ7_copyOf_59c91 cJ7_copyOf_59c91 3 (some (.array .int))) 12 340 1 1 [.ref a, .int 1] D [(cI, .int)] [(a, .inl (cI, 512, .inl f))] sz (S := Nat × ClassId × (Nat → Int32)) (fun v u => v = some (.ref u.1)) (fun u => [(a, .inl (cI, 512, .inl f)), (u.1, .inl (u.2.1, 1, .inl u.2.2))]) (fun u => [(cI, .int), (u.2.1, .int)]) := by
  refine cM_of (by decide) (Nat.le_of_ble_eq_true rfl) ?_
  intro p e s m below meth c ls hF hsz hP hK hD hE hZ hA hl
  obtain ⟨hx, hb, hr, hml, hown, hlocks, hnm, htb, hts⟩ := hF
  have hown : s.vm.findClass RJ7 = some m.cls := hown
  have hl : lv_has ls 3 [(0, .ref a), (1, .int 1)] := hl
  have hS : va_S (va_A [(a, .inl (cI, 512, .inl f))] sz) s.heap s.heap [] := va_S.rf
  refine lv_iload_n hx hb dJ7_copyOf_59c91_0 rfl (lv_at hl 1 rfl) ?_
  refine lv_aload_n hx hb dJ7_copyOf_59c91_1 rfl (lv_at hl 0 rfl) ?_
  refine va_alen hx hb hK hP 0 0 rfl rfl (v := 512) (show Int32.ofNat 512 = 512 from by decide) dJ7_copyOf_59c91_2 ?_
  refine lv_icmp_ne (tgt := 14) hx hb dJ7_copyOf_59c91_3 (by decide) (fun _ => ?_) (fun c9 => absurd c9 (by decide))
  refine lv_iload_n hx hb dJ7_copyOf_59c91_14 rfl (lv_at hl 1 rfl) ?_
  refine va_newa (atype := .int) (ty := .int) (a0 := (1, .inl (fun _ => 0))) hx hb (hts _ tw_1_54) rfl hK hP hD hS hA (fun _ => rfl) (by decide) (by decide) (by decide) (by decide) (by decide) dJ7_copyOf_59c91_15 (fun q_1 k_2 H hK hP hD hS => ?_)
  have hP : va_P D vwCl [(a, .inl (cI, 512, .inl f)), (q_1, .inl (k_2, 1, .inl (fun _ => 0)))] H := hP
  have hD : va_D _ [(a, .inl (cI, 512, .inl f)), (q_1, .inl (k_2, 1, .inl (fun _ => 0)))] := hD
  have hK : va_K D vwCl [(cI, .int), (k_2, .int)] s := hK
  refine lv_astore_n (lv' := [(2, .ref q_1), (0, .ref a), (1, .int 1)]) hx hb dJ7_copyOf_59c91_17 rfl hl (by decide) rfl (fun ls hl => ?_)
  refine lv_aload_n hx hb dJ7_copyOf_59c91_18 rfl (lv_at hl 1 rfl) ?_
  refine lv_iconst (v := 0) hx hb dJ7_copyOf_59c91_19 (by decide) ?_
  refine lv_aload_n hx hb dJ7_copyOf_59c91_20 rfl (lv_at hl 0 rfl) ?_
  refine lv_iconst (v := 0) hx hb dJ7_copyOf_59c91_21 (by decide) ?_
  refine lv_aload_n hx hb dJ7_copyOf_59c91_22 rfl (lv_at hl 1 rfl) ?_
  refine va_alen hx hb hK hP 0 0 rfl rfl (v := 512) (show Int32.ofNat 512 = 512 from by decide) dJ7_copyOf_59c91_23 ?_
  refine lv_iload_n hx hb dJ7_copyOf_59c91_24 rfl (lv_at hl 2 rfl) ?_
  refine va_mmin hx hb (hml.trans hl.1.symm) hown (hts _ tw_mml) (hts _ tw_mms) (hts _ tw_mmi) (hts _ tw_mmc) (by decide) (Nat.le_of_ble_eq_true rfl) (Nat.le_of_ble_eq_true rfl) (Nat.le_of_ble_eq_true rfl) dJ7_copyOf_59c91_25 ?_
  refine ck_top (y := 1) (by decide) ?_
  refine va_copyi (ty := .int) hx hb (hml.trans hl.1.symm) hown (hts _ tw_acl) (hts _ tw_acn) (hts _ tw_acs) (hts _ tw_aci) hK hP hD hS 0 1 0 1 rfl rfl rfl rfl rfl (by decide) (by decide) (by decide) (by decide) (by decide) (fun _ _ => rfl) (by decide) (Nat.le_of_ble_eq_true rfl) dJ7_copyOf_59c91_28 (fun H locs hP hD hS => ?_)
  have hP : va_P D vwCl [(a, .inl (cI, 512, .inl f)), (q_1, .inl (k_2, 1, .inl (va_cpy f (fun _ => 0) ((0 : Int32).toNatClampNeg) ((0 : Int32).toNatClampNeg) ((1 : Int32).toNatClampNeg))))] H := hP
  have hD : va_D _ [(a, .inl (cI, 512, .inl f)), (q_1, .inl (k_2, 1, .inl (va_cpy f (fun _ => 0) ((0 : Int32).toNatClampNeg) ((0 : Int32).toNatClampNeg) ((1 : Int32).toNatClampNeg))))] := hD
  refine lv_aload_n hx hb dJ7_copyOf_59c91_31 rfl (lv_at hl 0 rfl) ?_
  exact ck_aret ⟨q_1, k_2, (va_cpy f (fun _ => 0) ((0 : Int32).toNatClampNeg) ((0 : Int32).toNatClampNeg) ((1 : Int32).toNatClampNeg))⟩ hx hb hr (Or.inr ⟨_, rfl⟩) (Or.inr ⟨_, rfl⟩) hlocks rfl (hP.sub [0, 1] rfl) (hK.sub [0, 1] rfl) (hD.sub [0, 1] (by decide) rfl) hS (by decide) (by decide) dJ7_copyOf_59c91_32
set_option maxHeartbeats 4000000 in
set_option maxRecDepth 100000 in
theorem c_formInit (l : Launch) (D : va_G) (sz : Nat) (r q : Nat) (cA : ClassId) (g : Nat → Int32) : cM l yX2_init (.code yX2_init cX2_init 6 none) 12 340 0 0 [.ref r, .ref q] D [(cA, .int)] [(r, .inr (1, [.null, .int 0, .int 0])), (q, .inl (cA, 1, .inl g))] sz (S := Int32 × Int32) (fun v u => v = none) (fun u => [(r, .inr (1, [.ref q, .int u.1, .int u.2])), (q, .inl (cA, 1, .inl g))]) (fun u => [(cA, .int)]) := by
  refine cM_of (by decide) (Nat.le_of_ble_eq_true rfl) ?_
  intro p e s m below meth c ls hF hsz hP hK hD hE hZ hA hl
  obtain ⟨hx, hb, hr, hml, hown, hlocks, hnm, htb, hts⟩ := hF
  have hown : s.vm.findClass RX2 = some m.cls := hown
  have hl : lv_has ls 6 [(0, .ref r), (1, .ref q)] := hl
  have hS : va_S (va_A [(r, .inr (1, [.null, .int 0, .int 0])), (q, .inl (cA, 1, .inl g))] sz) s.heap s.heap [] := va_S.rf
  refine lv_aload_n hx hb dX2_init_0 rfl (lv_at hl 0 rfl) ?_
  refine W.objInit hx hb hown (hts _ tw_1_96) (hts _ tw_oi) (hts _ tw_oc) rfl (by rw [hml]; exact hl.1) rfl dX2_init_1 (Nat.le_of_ble_eq_true rfl) (Nat.le_of_ble_eq_true rfl) ?_
  refine W.eq (g2 := F0 m 4 ls []) rfl ?_
  refine lv_iconst (v := 0) hx hb dX2_init_4 (by decide) ?_
  refine lv_istore_n (lv' := [(2, .int 0), (0, .ref r), (1, .ref q)]) hx hb dX2_init_5 rfl hl (by decide) rfl (fun ls hl => ?_)
  refine lv_iconst (v := 0) hx hb dX2_init_6 (by decide) ?_
  refine lv_istore_n (lv' := [(3, .int 0), (2, .int 0), (0, .ref r), (1, .ref q)]) hx hb dX2_init_7 rfl hl (by decide) rfl (fun ls hl => ?_)
  refine lv_iconst (v := 0) hx hb dX2_init_8 (by decide) ?_
  refine lv_istore (lv' := [(4, .int 0), (3, .int 0), (2, .int 0), (0, .ref r), (1, .ref q)]) hx hb dX2_init_9 hl (by decide) rfl (fun ls hl => ?_)
  refine lv_iload hx hb dX2_init_11 (lv_at hl 0 rfl) ?_
  refine lv_aload_n hx hb dX2_init_13 rfl (lv_at hl 4 rfl) ?_
  refine va_alen hx hb hK hP 1 0 rfl rfl (v := 1) (show Int32.ofNat 1 = 1 from by decide) dX2_init_14 ?_
  refine lv_icmp_ge (tgt := 73) hx hb dX2_init_15 (by decide) (fun c9 => absurd c9 (by decide)) (fun _ => ?_)
  refine lv_aload_n hx hb dX2_init_18 rfl (lv_at hl 4 rfl) ?_
  refine lv_iload hx hb dX2_init_19 (lv_at hl 0 rfl) ?_
  refine va_iald hx hb hK hP 1 0 rfl rfl (vi (by decide)) dX2_init_21 ?_
  refine ck_top (y := (g ((0 : Int32).toNatClampNeg))) rfl ?_
  refine ck_run (wr := [(r, .inr (1, [.null, .int 0, .int 0])), (q, .inl (cA, 1, .inl g))]) (va_runS (As := [.int (g ((0 : Int32).toNatClampNeg))]) (rest := []) ⟨hx, hb, hml, hown, hts⟩ (c_value l D s.heap.size (g ((0 : Int32).toNatClampNeg))) (cw_S (n := 1) hts tw_1_97 tw_1_98 tw_1_8 tw_1_99 (by decide +kernel) ⟨by decide, by decide⟩) ⟨pre.blind, fun U hU hW => ⟨rfl, pre.of (wc := []) (tysc := []) (tk := []) hP hD hK hS hA hE hZ [] (by decide) rfl rfl rfl U hU hW⟩⟩ rfl rfl hl.1 rfl (lv_room (Nat.le_of_ble_eq_true rfl)) dX2_init_22 ⟨by decide, by decide⟩) hP hD hK hS hA [] [0, 1] rfl rfl (by decide) (by decide) (fun v u H locs hw hP hD hK9 hS => ?_)
  have hw : v = some (.int ((g ((0 : Int32).toNatClampNeg)) >>> ((4 : Int32) &&& 31))) := hw
  subst hw
  have hP : va_P D vwCl [(r, .inr (1, [.null, .int 0, .int 0])), (q, .inl (cA, 1, .inl g))] H := hP
  have hD : va_D _ [(r, .inr (1, [.null, .int 0, .int 0])), (q, .inl (cA, 1, .inl g))] := hD
  refine W.eq (g2 := F0 m 25 ls [.int ((g ((0 : Int32).toNatClampNeg)) >>> ((4 : Int32) &&& 31))]) rfl ?_
  refine lv_istore (lv' := [(5, .int ((g ((0 : Int32).toNatClampNeg)) >>> ((4 : Int32) &&& 31))), (4, .int 0), (3, .int 0), (2, .int 0), (0, .ref r), (1, .ref q)]) hx hb dX2_init_25 hl (by decide) rfl (fun ls hl => ?_)
  refine lv_aload_n hx hb dX2_init_27 rfl (lv_at hl 5 rfl) ?_
  refine lv_iload hx hb dX2_init_28 (lv_at hl 1 rfl) ?_
  refine va_iald hx hb hK hP 1 0 rfl rfl (vi (by decide)) dX2_init_30 ?_
  refine ck_top (y := (g ((0 : Int32).toNatClampNeg))) rfl ?_
  refine ck_run (wr := [(r, .inr (1, [.null, .int 0, .int 0])), (q, .inl (cA, 1, .inl g))]) (va_runS (As := [.int (g ((0 : Int32).toNatClampNeg))]) (rest := []) ⟨hx, hb, hml, hown, hts⟩ (c_kind l D H.size (g ((0 : Int32).toNatClampNeg))) (cw_S (n := 1) hts tw_1_100 tw_1_101 tw_1_8 tw_1_102 (by decide +kernel) ⟨by decide, by decide⟩) ⟨pre.blind, fun U hU hW => ⟨rfl, pre.of (wc := []) (tysc := []) (tk := []) hP hD hK hS hA hE hZ [] (by decide) rfl rfl rfl U hU hW⟩⟩ rfl rfl hl.1 rfl (lv_room (Nat.le_of_ble_eq_true rfl)) dX2_init_31 ⟨by decide, by decide⟩) hP hD hK hS hA [] [0, 1] rfl rfl (by decide) (by decide) (fun v u H locs hw hP hD hK9 hS => ?_)
  have hw : v = some (.int ((g ((0 : Int32).toNatClampNeg)) &&& 15)) := hw
  subst hw
  have hP : va_P D vwCl [(r, .inr (1, [.null, .int 0, .int 0])), (q, .inl (cA, 1, .inl g))] H := hP
  have hD : va_D _ [(r, .inr (1, [.null, .int 0, .int 0])), (q, .inl (cA, 1, .inl g))] := hD
  refine W.eq (g2 := F0 m 34 ls [.int ((g ((0 : Int32).toNatClampNeg)) &&& 15)]) rfl ?_
  refine lv_iconst (v := 2) hx hb dX2_init_34 (by decide) ?_
  refine lv_icmp_ne (tgt := 45) hx hb dX2_init_35 (by decide) (fun c_35 => ?_) (fun c_35 => ?_)
  · refine lv_aload_n hx hb dX2_init_45 rfl (lv_at hl 5 rfl) ?_
    refine lv_iload hx hb dX2_init_46 (lv_at hl 1 rfl) ?_
    refine va_iald hx hb hK hP 1 0 rfl rfl (vi (by decide)) dX2_init_48 ?_
    refine ck_top (y := (g ((0 : Int32).toNatClampNeg))) rfl ?_
    refine ck_run (wr := [(r, .inr (1, [.null, .int 0, .int 0])), (q, .inl (cA, 1, .inl g))]) (va_runS (As := [.int (g ((0 : Int32).toNatClampNeg))]) (rest := []) ⟨hx, hb, hml, hown, hts⟩ (c_kind l D H.size (g ((0 : Int32).toNatClampNeg))) (cw_S (n := 1) hts tw_1_100 tw_1_101 tw_1_8 tw_1_102 (by decide +kernel) ⟨by decide, by decide⟩) ⟨pre.blind, fun U hU hW => ⟨rfl, pre.of (wc := []) (tysc := []) (tk := []) hP hD hK hS hA hE hZ [] (by decide) rfl rfl rfl U hU hW⟩⟩ rfl rfl hl.1 rfl (lv_room (Nat.le_of_ble_eq_true rfl)) dX2_init_49 ⟨by decide, by decide⟩) hP hD hK hS hA [] [0, 1] rfl rfl (by decide) (by decide) (fun v u H locs hw hP hD hK9 hS => ?_)
    have hw : v = some (.int ((g ((0 : Int32).toNatClampNeg)) &&& 15)) := hw
    subst hw
    have hP : va_P D vwCl [(r, .inr (1, [.null, .int 0, .int 0])), (q, .inl (cA, 1, .inl g))] H := hP
    have hD : va_D _ [(r, .inr (1, [.null, .int 0, .int 0])), (q, .inl (cA, 1, .inl g))] := hD
    refine W.eq (g2 := F0 m 52 ls [.int ((g ((0 : Int32).toNatClampNeg)) &&& 15)]) rfl ?_
    refine lv_iconst (v := 1) hx hb dX2_init_52 (by decide) ?_
    refine lv_icmp_ne (tgt := 67) hx hb dX2_init_53 (by decide) (fun c_53 => ?_) (fun c_53 => ?_)
    · refine lv_iinc (v := 1) (lv' := [(4, .int 1), (5, .int ((g ((0 : Int32).toNatClampNeg)) >>> ((4 : Int32) &&& 31))), (3, .int 0), (2, .int 0), (0, .ref r), (1, .ref q)]) hx hb dX2_init_67 hl (k := 1) rfl (by decide) (by decide) rfl (fun ls hl => ?_)
      refine lv_goto (tgt := 11) hx hb dX2_init_70 (by decide) ?_
      refine lv_iload hx hb dX2_init_11 (lv_at hl 0 rfl) ?_
      refine lv_aload_n hx hb dX2_init_13 rfl (lv_at hl 5 rfl) ?_
      refine va_alen hx hb hK hP 1 0 rfl rfl (v := 1) (show Int32.ofNat 1 = 1 from by decide) dX2_init_14 ?_
      refine lv_icmp_ge (tgt := 73) hx hb dX2_init_15 (by decide) (fun _ => ?_) (fun c9 => absurd (by decide) c9)
      refine lv_aload_n hx hb dX2_init_73 rfl (lv_at hl 4 rfl) ?_
      refine lv_aload_n hx hb dX2_init_74 rfl (lv_at hl 5 rfl) ?_
      refine va_putF (ci := 1) (v := .ref q) (ty := .array .int) (C := RX2) (T := TX2) (N := 3) hx hb hts inG_X2 tyX2 tyX2_ok nmX2 hown hK hP hD hS 0 rfl rfl 0 (by decide) (hts _ tw_1_103) (fun _ h9 => h9) rfl hnm rfl (by decide +kernel) rfl rfl (Nat.le_of_ble_eq_true rfl) dX2_init_75 (fun H locs hP hD hS => ?_)
      have hP : va_P D vwCl [(r, .inr (1, [.ref q, .int 0, .int 0])), (q, .inl (cA, 1, .inl g))] H := hP
      have hD : va_D _ [(r, .inr (1, [.ref q, .int 0, .int 0])), (q, .inl (cA, 1, .inl g))] := hD
      refine lv_aload_n hx hb dX2_init_78 rfl (lv_at hl 4 rfl) ?_
      refine lv_iload_n hx hb dX2_init_79 rfl (lv_at hl 3 rfl) ?_
      refine lv_if_ne (tgt := 87) hx hb dX2_init_80 (by decide) (fun c9 => absurd (by decide) c9) (fun _ => ?_)
      refine lv_iconst (v := 1) hx hb dX2_init_83 (by decide) ?_
      refine lv_goto (tgt := 88) hx hb dX2_init_84 (by decide) ?_
      refine va_putF (ci := 1) (v := .int 1) (ty := .boolean) (C := RX2) (T := TX2) (N := 3) hx hb hts inG_X2 tyX2 tyX2_ok nmX2 hown hK hP hD hS 0 rfl rfl 1 (by decide) (hts _ tw_1_106) (fun _ h9 => h9) rfl hnm rfl (by decide +kernel) rfl rfl (Nat.le_of_ble_eq_true rfl) dX2_init_88 (fun H locs hP hD hS => ?_)
      have hP : va_P D vwCl [(r, .inr (1, [.ref q, .int 1, .int 0])), (q, .inl (cA, 1, .inl g))] H := hP
      have hD : va_D _ [(r, .inr (1, [.ref q, .int 1, .int 0])), (q, .inl (cA, 1, .inl g))] := hD
      refine lv_aload_n hx hb dX2_init_91 rfl (lv_at hl 4 rfl) ?_
      refine lv_iload_n hx hb dX2_init_92 rfl (lv_at hl 2 rfl) ?_
      refine va_putF (ci := 1) (v := .int 0) (ty := .int) (C := RX2) (T := TX2) (N := 3) hx hb hts inG_X2 tyX2 tyX2_ok nmX2 hown hK hP hD hS 0 rfl rfl 2 (by decide) (hts _ tw_1_108) (fun _ h9 => h9) rfl hnm rfl (by decide +kernel) rfl rfl (Nat.le_of_ble_eq_true rfl) dX2_init_93 (fun H locs hP hD hS => ?_)
      have hP : va_P D vwCl [(r, .inr (1, [.ref q, .int 1, .int 0])), (q, .inl (cA, 1, .inl g))] H := hP
      have hD : va_D _ [(r, .inr (1, [.ref q, .int 1, .int 0])), (q, .inl (cA, 1, .inl g))] := hD
      exact ck_vret ⟨1, 0⟩ hx hb hr hlocks rfl (hP.sub [0, 1] rfl) (hK.sub [0] rfl) (hD.sub [0, 1] (by decide) rfl) hS (by decide) (by decide) dX2_init_96
    · refine lv_iload hx hb dX2_init_56 (lv_at hl 0 rfl) ?_
      refine lv_iload_n hx hb dX2_init_58 rfl (lv_at hl 2 rfl) ?_
      refine lv_icmp_lt (tgt := 67) hx hb dX2_init_59 (by decide) (fun c_59 => ?_) (fun c_59 => ?_)
      · refine lv_iinc (v := 1) (lv' := [(4, .int 1), (5, .int ((g ((0 : Int32).toNatClampNeg)) >>> ((4 : Int32) &&& 31))), (3, .int 0), (2, .int 0), (0, .ref r), (1, .ref q)]) hx hb dX2_init_67 hl (k := 1) rfl (by decide) (by decide) rfl (fun ls hl => ?_)
        refine lv_goto (tgt := 11) hx hb dX2_init_70 (by decide) ?_
        refine lv_iload hx hb dX2_init_11 (lv_at hl 0 rfl) ?_
        refine lv_aload_n hx hb dX2_init_13 rfl (lv_at hl 5 rfl) ?_
        refine va_alen hx hb hK hP 1 0 rfl rfl (v := 1) (show Int32.ofNat 1 = 1 from by decide) dX2_init_14 ?_
        refine lv_icmp_ge (tgt := 73) hx hb dX2_init_15 (by decide) (fun _ => ?_) (fun c9 => absurd (by decide) c9)
        refine lv_aload_n hx hb dX2_init_73 rfl (lv_at hl 4 rfl) ?_
        refine lv_aload_n hx hb dX2_init_74 rfl (lv_at hl 5 rfl) ?_
        refine va_putF (ci := 1) (v := .ref q) (ty := .array .int) (C := RX2) (T := TX2) (N := 3) hx hb hts inG_X2 tyX2 tyX2_ok nmX2 hown hK hP hD hS 0 rfl rfl 0 (by decide) (hts _ tw_1_103) (fun _ h9 => h9) rfl hnm rfl (by decide +kernel) rfl rfl (Nat.le_of_ble_eq_true rfl) dX2_init_75 (fun H locs hP hD hS => ?_)
        have hP : va_P D vwCl [(r, .inr (1, [.ref q, .int 0, .int 0])), (q, .inl (cA, 1, .inl g))] H := hP
        have hD : va_D _ [(r, .inr (1, [.ref q, .int 0, .int 0])), (q, .inl (cA, 1, .inl g))] := hD
        refine lv_aload_n hx hb dX2_init_78 rfl (lv_at hl 4 rfl) ?_
        refine lv_iload_n hx hb dX2_init_79 rfl (lv_at hl 3 rfl) ?_
        refine lv_if_ne (tgt := 87) hx hb dX2_init_80 (by decide) (fun c9 => absurd (by decide) c9) (fun _ => ?_)
        refine lv_iconst (v := 1) hx hb dX2_init_83 (by decide) ?_
        refine lv_goto (tgt := 88) hx hb dX2_init_84 (by decide) ?_
        refine va_putF (ci := 1) (v := .int 1) (ty := .boolean) (C := RX2) (T := TX2) (N := 3) hx hb hts inG_X2 tyX2 tyX2_ok nmX2 hown hK hP hD hS 0 rfl rfl 1 (by decide) (hts _ tw_1_106) (fun _ h9 => h9) rfl hnm rfl (by decide +kernel) rfl rfl (Nat.le_of_ble_eq_true rfl) dX2_init_88 (fun H locs hP hD hS => ?_)
        have hP : va_P D vwCl [(r, .inr (1, [.ref q, .int 1, .int 0])), (q, .inl (cA, 1, .inl g))] H := hP
        have hD : va_D _ [(r, .inr (1, [.ref q, .int 1, .int 0])), (q, .inl (cA, 1, .inl g))] := hD
        refine lv_aload_n hx hb dX2_init_91 rfl (lv_at hl 4 rfl) ?_
        refine lv_iload_n hx hb dX2_init_92 rfl (lv_at hl 2 rfl) ?_
        refine va_putF (ci := 1) (v := .int 0) (ty := .int) (C := RX2) (T := TX2) (N := 3) hx hb hts inG_X2 tyX2 tyX2_ok nmX2 hown hK hP hD hS 0 rfl rfl 2 (by decide) (hts _ tw_1_108) (fun _ h9 => h9) rfl hnm rfl (by decide +kernel) rfl rfl (Nat.le_of_ble_eq_true rfl) dX2_init_93 (fun H locs hP hD hS => ?_)
        have hP : va_P D vwCl [(r, .inr (1, [.ref q, .int 1, .int 0])), (q, .inl (cA, 1, .inl g))] H := hP
        have hD : va_D _ [(r, .inr (1, [.ref q, .int 1, .int 0])), (q, .inl (cA, 1, .inl g))] := hD
        exact ck_vret ⟨1, 0⟩ hx hb hr hlocks rfl (hP.sub [0, 1] rfl) (hK.sub [0] rfl) (hD.sub [0, 1] (by decide) rfl) hS (by decide) (by decide) dX2_init_96
      · refine lv_iload hx hb dX2_init_62 (lv_at hl 0 rfl) ?_
        refine lv_iconst (v := 1) hx hb dX2_init_64 (by decide) ?_
        refine lv_iadd hx hb dX2_init_65 ?_
        refine lv_topi (fun z_1 ez_1 => ?_)
        refine lv_istore_n (lv' := [(3, .int z_1), (5, .int ((g ((0 : Int32).toNatClampNeg)) >>> ((4 : Int32) &&& 31))), (4, .int 0), (2, .int 0), (0, .ref r), (1, .ref q)]) hx hb dX2_init_66 rfl hl (by decide) rfl (fun ls hl => ?_)
        refine lv_iinc (v := 1) (lv' := [(4, .int 1), (3, .int z_1), (5, .int ((g ((0 : Int32).toNatClampNeg)) >>> ((4 : Int32) &&& 31))), (2, .int 0), (0, .ref r), (1, .ref q)]) hx hb dX2_init_67 hl (k := 2) rfl (by decide) (by decide) rfl (fun ls hl => ?_)
        refine lv_goto (tgt := 11) hx hb dX2_init_70 (by decide) ?_
        refine lv_iload hx hb dX2_init_11 (lv_at hl 0 rfl) ?_
        refine lv_aload_n hx hb dX2_init_13 rfl (lv_at hl 5 rfl) ?_
        refine va_alen hx hb hK hP 1 0 rfl rfl (v := 1) (show Int32.ofNat 1 = 1 from by decide) dX2_init_14 ?_
        refine lv_icmp_ge (tgt := 73) hx hb dX2_init_15 (by decide) (fun _ => ?_) (fun c9 => absurd (by decide) c9)
        refine lv_aload_n hx hb dX2_init_73 rfl (lv_at hl 4 rfl) ?_
        refine lv_aload_n hx hb dX2_init_74 rfl (lv_at hl 5 rfl) ?_
        refine va_putF (ci := 1) (v := .ref q) (ty := .array .int) (C := RX2) (T := TX2) (N := 3) hx hb hts inG_X2 tyX2 tyX2_ok nmX2 hown hK hP hD hS 0 rfl rfl 0 (by decide) (hts _ tw_1_103) (fun _ h9 => h9) rfl hnm rfl (by decide +kernel) rfl rfl (Nat.le_of_ble_eq_true rfl) dX2_init_75 (fun H locs hP hD hS => ?_)
        have hP : va_P D vwCl [(r, .inr (1, [.ref q, .int 0, .int 0])), (q, .inl (cA, 1, .inl g))] H := hP
        have hD : va_D _ [(r, .inr (1, [.ref q, .int 0, .int 0])), (q, .inl (cA, 1, .inl g))] := hD
        refine lv_aload_n hx hb dX2_init_78 rfl (lv_at hl 4 rfl) ?_
        refine lv_iload_n hx hb dX2_init_79 rfl (lv_at hl 3 rfl) ?_
        refine lv_if_ne (tgt := 87) hx hb dX2_init_80 (by decide) (fun c9 => absurd (by decide) c9) (fun _ => ?_)
        refine lv_iconst (v := 1) hx hb dX2_init_83 (by decide) ?_
        refine lv_goto (tgt := 88) hx hb dX2_init_84 (by decide) ?_
        refine va_putF (ci := 1) (v := .int 1) (ty := .boolean) (C := RX2) (T := TX2) (N := 3) hx hb hts inG_X2 tyX2 tyX2_ok nmX2 hown hK hP hD hS 0 rfl rfl 1 (by decide) (hts _ tw_1_106) (fun _ h9 => h9) rfl hnm rfl (by decide +kernel) rfl rfl (Nat.le_of_ble_eq_true rfl) dX2_init_88 (fun H locs hP hD hS => ?_)
        have hP : va_P D vwCl [(r, .inr (1, [.ref q, .int 1, .int 0])), (q, .inl (cA, 1, .inl g))] H := hP
        have hD : va_D _ [(r, .inr (1, [.ref q, .int 1, .int 0])), (q, .inl (cA, 1, .inl g))] := hD
        refine lv_aload_n hx hb dX2_init_91 rfl (lv_at hl 4 rfl) ?_
        refine lv_iload_n hx hb dX2_init_92 rfl (lv_at hl 1 rfl) ?_
        refine va_putF (ci := 1) (v := .int z_1) (ty := .int) (C := RX2) (T := TX2) (N := 3) hx hb hts inG_X2 tyX2 tyX2_ok nmX2 hown hK hP hD hS 0 rfl rfl 2 (by decide) (hts _ tw_1_108) (fun _ h9 => h9) rfl hnm rfl (by decide +kernel) rfl rfl (Nat.le_of_ble_eq_true rfl) dX2_init_93 (fun H locs hP hD hS => ?_)
        have hP : va_P D vwCl [(r, .inr (1, [.ref q, .int 1, .int z_1])), (q, .inl (cA, 1, .inl g))] H := hP
        have hD : va_D _ [(r, .inr (1, [.ref q, .int 1, .int z_1])), (q, .inl (cA, 1, .inl g))] := hD
        exact ck_vret ⟨1, z_1⟩ hx hb hr hlocks rfl (hP.sub [0, 1] rfl) (hK.sub [0] rfl) (hD.sub [0, 1] (by decide) rfl) hS (by decide) (by decide) dX2_init_96
  · refine lv_iload hx hb dX2_init_38 (lv_at hl 0 rfl) ?_
    refine lv_if_ge (tgt := 45) hx hb dX2_init_40 (by decide) (fun c_40 => ?_) (fun c_40 => ?_)
    · refine lv_aload_n hx hb dX2_init_45 rfl (lv_at hl 5 rfl) ?_
      refine lv_iload hx hb dX2_init_46 (lv_at hl 1 rfl) ?_
      refine va_iald hx hb hK hP 1 0 rfl rfl (vi (by decide)) dX2_init_48 ?_
      refine ck_top (y := (g ((0 : Int32).toNatClampNeg))) rfl ?_
      refine ck_run (wr := [(r, .inr (1, [.null, .int 0, .int 0])), (q, .inl (cA, 1, .inl g))]) (va_runS (As := [.int (g ((0 : Int32).toNatClampNeg))]) (rest := []) ⟨hx, hb, hml, hown, hts⟩ (c_kind l D H.size (g ((0 : Int32).toNatClampNeg))) (cw_S (n := 1) hts tw_1_100 tw_1_101 tw_1_8 tw_1_102 (by decide +kernel) ⟨by decide, by decide⟩) ⟨pre.blind, fun U hU hW => ⟨rfl, pre.of (wc := []) (tysc := []) (tk := []) hP hD hK hS hA hE hZ [] (by decide) rfl rfl rfl U hU hW⟩⟩ rfl rfl hl.1 rfl (lv_room (Nat.le_of_ble_eq_true rfl)) dX2_init_49 ⟨by decide, by decide⟩) hP hD hK hS hA [] [0, 1] rfl rfl (by decide) (by decide) (fun v u H locs hw hP hD hK9 hS => ?_)
      have hw : v = some (.int ((g ((0 : Int32).toNatClampNeg)) &&& 15)) := hw
      subst hw
      have hP : va_P D vwCl [(r, .inr (1, [.null, .int 0, .int 0])), (q, .inl (cA, 1, .inl g))] H := hP
      have hD : va_D _ [(r, .inr (1, [.null, .int 0, .int 0])), (q, .inl (cA, 1, .inl g))] := hD
      refine W.eq (g2 := F0 m 52 ls [.int ((g ((0 : Int32).toNatClampNeg)) &&& 15)]) rfl ?_
      refine lv_iconst (v := 1) hx hb dX2_init_52 (by decide) ?_
      refine lv_icmp_ne (tgt := 67) hx hb dX2_init_53 (by decide) (fun c_53 => ?_) (fun c_53 => ?_)
      · refine lv_iinc (v := 1) (lv' := [(4, .int 1), (5, .int ((g ((0 : Int32).toNatClampNeg)) >>> ((4 : Int32) &&& 31))), (3, .int 0), (2, .int 0), (0, .ref r), (1, .ref q)]) hx hb dX2_init_67 hl (k := 1) rfl (by decide) (by decide) rfl (fun ls hl => ?_)
        refine lv_goto (tgt := 11) hx hb dX2_init_70 (by decide) ?_
        refine lv_iload hx hb dX2_init_11 (lv_at hl 0 rfl) ?_
        refine lv_aload_n hx hb dX2_init_13 rfl (lv_at hl 5 rfl) ?_
        refine va_alen hx hb hK hP 1 0 rfl rfl (v := 1) (show Int32.ofNat 1 = 1 from by decide) dX2_init_14 ?_
        refine lv_icmp_ge (tgt := 73) hx hb dX2_init_15 (by decide) (fun _ => ?_) (fun c9 => absurd (by decide) c9)
        refine lv_aload_n hx hb dX2_init_73 rfl (lv_at hl 4 rfl) ?_
        refine lv_aload_n hx hb dX2_init_74 rfl (lv_at hl 5 rfl) ?_
        refine va_putF (ci := 1) (v := .ref q) (ty := .array .int) (C := RX2) (T := TX2) (N := 3) hx hb hts inG_X2 tyX2 tyX2_ok nmX2 hown hK hP hD hS 0 rfl rfl 0 (by decide) (hts _ tw_1_103) (fun _ h9 => h9) rfl hnm rfl (by decide +kernel) rfl rfl (Nat.le_of_ble_eq_true rfl) dX2_init_75 (fun H locs hP hD hS => ?_)
        have hP : va_P D vwCl [(r, .inr (1, [.ref q, .int 0, .int 0])), (q, .inl (cA, 1, .inl g))] H := hP
        have hD : va_D _ [(r, .inr (1, [.ref q, .int 0, .int 0])), (q, .inl (cA, 1, .inl g))] := hD
        refine lv_aload_n hx hb dX2_init_78 rfl (lv_at hl 4 rfl) ?_
        refine lv_iload_n hx hb dX2_init_79 rfl (lv_at hl 3 rfl) ?_
        refine lv_if_ne (tgt := 87) hx hb dX2_init_80 (by decide) (fun c9 => absurd (by decide) c9) (fun _ => ?_)
        refine lv_iconst (v := 1) hx hb dX2_init_83 (by decide) ?_
        refine lv_goto (tgt := 88) hx hb dX2_init_84 (by decide) ?_
        refine va_putF (ci := 1) (v := .int 1) (ty := .boolean) (C := RX2) (T := TX2) (N := 3) hx hb hts inG_X2 tyX2 tyX2_ok nmX2 hown hK hP hD hS 0 rfl rfl 1 (by decide) (hts _ tw_1_106) (fun _ h9 => h9) rfl hnm rfl (by decide +kernel) rfl rfl (Nat.le_of_ble_eq_true rfl) dX2_init_88 (fun H locs hP hD hS => ?_)
        have hP : va_P D vwCl [(r, .inr (1, [.ref q, .int 1, .int 0])), (q, .inl (cA, 1, .inl g))] H := hP
        have hD : va_D _ [(r, .inr (1, [.ref q, .int 1, .int 0])), (q, .inl (cA, 1, .inl g))] := hD
        refine lv_aload_n hx hb dX2_init_91 rfl (lv_at hl 4 rfl) ?_
        refine lv_iload_n hx hb dX2_init_92 rfl (lv_at hl 2 rfl) ?_
        refine va_putF (ci := 1) (v := .int 0) (ty := .int) (C := RX2) (T := TX2) (N := 3) hx hb hts inG_X2 tyX2 tyX2_ok nmX2 hown hK hP hD hS 0 rfl rfl 2 (by decide) (hts _ tw_1_108) (fun _ h9 => h9) rfl hnm rfl (by decide +kernel) rfl rfl (Nat.le_of_ble_eq_true rfl) dX2_init_93 (fun H locs hP hD hS => ?_)
        have hP : va_P D vwCl [(r, .inr (1, [.ref q, .int 1, .int 0])), (q, .inl (cA, 1, .inl g))] H := hP
        have hD : va_D _ [(r, .inr (1, [.ref q, .int 1, .int 0])), (q, .inl (cA, 1, .inl g))] := hD
        exact ck_vret ⟨1, 0⟩ hx hb hr hlocks rfl (hP.sub [0, 1] rfl) (hK.sub [0] rfl) (hD.sub [0, 1] (by decide) rfl) hS (by decide) (by decide) dX2_init_96
      · refine lv_iload hx hb dX2_init_56 (lv_at hl 0 rfl) ?_
        refine lv_iload_n hx hb dX2_init_58 rfl (lv_at hl 2 rfl) ?_
        refine lv_icmp_lt (tgt := 67) hx hb dX2_init_59 (by decide) (fun c_59 => ?_) (fun c_59 => ?_)
        · refine lv_iinc (v := 1) (lv' := [(4, .int 1), (5, .int ((g ((0 : Int32).toNatClampNeg)) >>> ((4 : Int32) &&& 31))), (3, .int 0), (2, .int 0), (0, .ref r), (1, .ref q)]) hx hb dX2_init_67 hl (k := 1) rfl (by decide) (by decide) rfl (fun ls hl => ?_)
          refine lv_goto (tgt := 11) hx hb dX2_init_70 (by decide) ?_
          refine lv_iload hx hb dX2_init_11 (lv_at hl 0 rfl) ?_
          refine lv_aload_n hx hb dX2_init_13 rfl (lv_at hl 5 rfl) ?_
          refine va_alen hx hb hK hP 1 0 rfl rfl (v := 1) (show Int32.ofNat 1 = 1 from by decide) dX2_init_14 ?_
          refine lv_icmp_ge (tgt := 73) hx hb dX2_init_15 (by decide) (fun _ => ?_) (fun c9 => absurd (by decide) c9)
          refine lv_aload_n hx hb dX2_init_73 rfl (lv_at hl 4 rfl) ?_
          refine lv_aload_n hx hb dX2_init_74 rfl (lv_at hl 5 rfl) ?_
          refine va_putF (ci := 1) (v := .ref q) (ty := .array .int) (C := RX2) (T := TX2) (N := 3) hx hb hts inG_X2 tyX2 tyX2_ok nmX2 hown hK hP hD hS 0 rfl rfl 0 (by decide) (hts _ tw_1_103) (fun _ h9 => h9) rfl hnm rfl (by decide +kernel) rfl rfl (Nat.le_of_ble_eq_true rfl) dX2_init_75 (fun H locs hP hD hS => ?_)
          have hP : va_P D vwCl [(r, .inr (1, [.ref q, .int 0, .int 0])), (q, .inl (cA, 1, .inl g))] H := hP
          have hD : va_D _ [(r, .inr (1, [.ref q, .int 0, .int 0])), (q, .inl (cA, 1, .inl g))] := hD
          refine lv_aload_n hx hb dX2_init_78 rfl (lv_at hl 4 rfl) ?_
          refine lv_iload_n hx hb dX2_init_79 rfl (lv_at hl 3 rfl) ?_
          refine lv_if_ne (tgt := 87) hx hb dX2_init_80 (by decide) (fun c9 => absurd (by decide) c9) (fun _ => ?_)
          refine lv_iconst (v := 1) hx hb dX2_init_83 (by decide) ?_
          refine lv_goto (tgt := 88) hx hb dX2_init_84 (by decide) ?_
          refine va_putF (ci := 1) (v := .int 1) (ty := .boolean) (C := RX2) (T := TX2) (N := 3) hx hb hts inG_X2 tyX2 tyX2_ok nmX2 hown hK hP hD hS 0 rfl rfl 1 (by decide) (hts _ tw_1_106) (fun _ h9 => h9) rfl hnm rfl (by decide +kernel) rfl rfl (Nat.le_of_ble_eq_true rfl) dX2_init_88 (fun H locs hP hD hS => ?_)
          have hP : va_P D vwCl [(r, .inr (1, [.ref q, .int 1, .int 0])), (q, .inl (cA, 1, .inl g))] H := hP
          have hD : va_D _ [(r, .inr (1, [.ref q, .int 1, .int 0])), (q, .inl (cA, 1, .inl g))] := hD
          refine lv_aload_n hx hb dX2_init_91 rfl (lv_at hl 4 rfl) ?_
          refine lv_iload_n hx hb dX2_init_92 rfl (lv_at hl 2 rfl) ?_
          refine va_putF (ci := 1) (v := .int 0) (ty := .int) (C := RX2) (T := TX2) (N := 3) hx hb hts inG_X2 tyX2 tyX2_ok nmX2 hown hK hP hD hS 0 rfl rfl 2 (by decide) (hts _ tw_1_108) (fun _ h9 => h9) rfl hnm rfl (by decide +kernel) rfl rfl (Nat.le_of_ble_eq_true rfl) dX2_init_93 (fun H locs hP hD hS => ?_)
          have hP : va_P D vwCl [(r, .inr (1, [.ref q, .int 1, .int 0])), (q, .inl (cA, 1, .inl g))] H := hP
          have hD : va_D _ [(r, .inr (1, [.ref q, .int 1, .int 0])), (q, .inl (cA, 1, .inl g))] := hD
          exact ck_vret ⟨1, 0⟩ hx hb hr hlocks rfl (hP.sub [0, 1] rfl) (hK.sub [0] rfl) (hD.sub [0, 1] (by decide) rfl) hS (by decide) (by decide) dX2_init_96
        · refine lv_iload hx hb dX2_init_62 (lv_at hl 0 rfl) ?_
          refine lv_iconst (v := 1) hx hb dX2_init_64 (by decide) ?_
          refine lv_iadd hx hb dX2_init_65 ?_
          refine lv_topi (fun z_2 ez_2 => ?_)
          refine lv_istore_n (lv' := [(3, .int z_2), (5, .int ((g ((0 : Int32).toNatClampNeg)) >>> ((4 : Int32) &&& 31))), (4, .int 0), (2, .int 0), (0, .ref r), (1, .ref q)]) hx hb dX2_init_66 rfl hl (by decide) rfl (fun ls hl => ?_)
          refine lv_iinc (v := 1) (lv' := [(4, .int 1), (3, .int z_2), (5, .int ((g ((0 : Int32).toNatClampNeg)) >>> ((4 : Int32) &&& 31))), (2, .int 0), (0, .ref r), (1, .ref q)]) hx hb dX2_init_67 hl (k := 2) rfl (by decide) (by decide) rfl (fun ls hl => ?_)
          refine lv_goto (tgt := 11) hx hb dX2_init_70 (by decide) ?_
          refine lv_iload hx hb dX2_init_11 (lv_at hl 0 rfl) ?_
          refine lv_aload_n hx hb dX2_init_13 rfl (lv_at hl 5 rfl) ?_
          refine va_alen hx hb hK hP 1 0 rfl rfl (v := 1) (show Int32.ofNat 1 = 1 from by decide) dX2_init_14 ?_
          refine lv_icmp_ge (tgt := 73) hx hb dX2_init_15 (by decide) (fun _ => ?_) (fun c9 => absurd (by decide) c9)
          refine lv_aload_n hx hb dX2_init_73 rfl (lv_at hl 4 rfl) ?_
          refine lv_aload_n hx hb dX2_init_74 rfl (lv_at hl 5 rfl) ?_
          refine va_putF (ci := 1) (v := .ref q) (ty := .array .int) (C := RX2) (T := TX2) (N := 3) hx hb hts inG_X2 tyX2 tyX2_ok nmX2 hown hK hP hD hS 0 rfl rfl 0 (by decide) (hts _ tw_1_103) (fun _ h9 => h9) rfl hnm rfl (by decide +kernel) rfl rfl (Nat.le_of_ble_eq_true rfl) dX2_init_75 (fun H locs hP hD hS => ?_)
          have hP : va_P D vwCl [(r, .inr (1, [.ref q, .int 0, .int 0])), (q, .inl (cA, 1, .inl g))] H := hP
          have hD : va_D _ [(r, .inr (1, [.ref q, .int 0, .int 0])), (q, .inl (cA, 1, .inl g))] := hD
          refine lv_aload_n hx hb dX2_init_78 rfl (lv_at hl 4 rfl) ?_
          refine lv_iload_n hx hb dX2_init_79 rfl (lv_at hl 3 rfl) ?_
          refine lv_if_ne (tgt := 87) hx hb dX2_init_80 (by decide) (fun c9 => absurd (by decide) c9) (fun _ => ?_)
          refine lv_iconst (v := 1) hx hb dX2_init_83 (by decide) ?_
          refine lv_goto (tgt := 88) hx hb dX2_init_84 (by decide) ?_
          refine va_putF (ci := 1) (v := .int 1) (ty := .boolean) (C := RX2) (T := TX2) (N := 3) hx hb hts inG_X2 tyX2 tyX2_ok nmX2 hown hK hP hD hS 0 rfl rfl 1 (by decide) (hts _ tw_1_106) (fun _ h9 => h9) rfl hnm rfl (by decide +kernel) rfl rfl (Nat.le_of_ble_eq_true rfl) dX2_init_88 (fun H locs hP hD hS => ?_)
          have hP : va_P D vwCl [(r, .inr (1, [.ref q, .int 1, .int 0])), (q, .inl (cA, 1, .inl g))] H := hP
          have hD : va_D _ [(r, .inr (1, [.ref q, .int 1, .int 0])), (q, .inl (cA, 1, .inl g))] := hD
          refine lv_aload_n hx hb dX2_init_91 rfl (lv_at hl 4 rfl) ?_
          refine lv_iload_n hx hb dX2_init_92 rfl (lv_at hl 1 rfl) ?_
          refine va_putF (ci := 1) (v := .int z_2) (ty := .int) (C := RX2) (T := TX2) (N := 3) hx hb hts inG_X2 tyX2 tyX2_ok nmX2 hown hK hP hD hS 0 rfl rfl 2 (by decide) (hts _ tw_1_108) (fun _ h9 => h9) rfl hnm rfl (by decide +kernel) rfl rfl (Nat.le_of_ble_eq_true rfl) dX2_init_93 (fun H locs hP hD hS => ?_)
          have hP : va_P D vwCl [(r, .inr (1, [.ref q, .int 1, .int z_2])), (q, .inl (cA, 1, .inl g))] H := hP
          have hD : va_D _ [(r, .inr (1, [.ref q, .int 1, .int z_2])), (q, .inl (cA, 1, .inl g))] := hD
          exact ck_vret ⟨1, z_2⟩ hx hb hr hlocks rfl (hP.sub [0, 1] rfl) (hK.sub [0] rfl) (hD.sub [0, 1] (by decide) rfl) hS (by decide) (by decide) dX2_init_96
    · refine lv_iconst (v := 1) hx hb dX2_init_43 (by decide) ?_
      refine lv_istore_n (lv' := [(2, .int 1), (5, .int ((g ((0 : Int32).toNatClampNeg)) >>> ((4 : Int32) &&& 31))), (4, .int 0), (3, .int 0), (0, .ref r), (1, .ref q)]) hx hb dX2_init_44 rfl hl (by decide) rfl (fun ls hl => ?_)
      refine lv_aload_n hx hb dX2_init_45 rfl (lv_at hl 5 rfl) ?_
      refine lv_iload hx hb dX2_init_46 (lv_at hl 2 rfl) ?_
      refine va_iald hx hb hK hP 1 0 rfl rfl (vi (by decide)) dX2_init_48 ?_
      refine ck_top (y := (g ((0 : Int32).toNatClampNeg))) rfl ?_
      refine ck_run (wr := [(r, .inr (1, [.null, .int 0, .int 0])), (q, .inl (cA, 1, .inl g))]) (va_runS (As := [.int (g ((0 : Int32).toNatClampNeg))]) (rest := []) ⟨hx, hb, hml, hown, hts⟩ (c_kind l D H.size (g ((0 : Int32).toNatClampNeg))) (cw_S (n := 1) hts tw_1_100 tw_1_101 tw_1_8 tw_1_102 (by decide +kernel) ⟨by decide, by decide⟩) ⟨pre.blind, fun U hU hW => ⟨rfl, pre.of (wc := []) (tysc := []) (tk := []) hP hD hK hS hA hE hZ [] (by decide) rfl rfl rfl U hU hW⟩⟩ rfl rfl hl.1 rfl (lv_room (Nat.le_of_ble_eq_true rfl)) dX2_init_49 ⟨by decide, by decide⟩) hP hD hK hS hA [] [0, 1] rfl rfl (by decide) (by decide) (fun v u H locs hw hP hD hK9 hS => ?_)
      have hw : v = some (.int ((g ((0 : Int32).toNatClampNeg)) &&& 15)) := hw
      subst hw
      have hP : va_P D vwCl [(r, .inr (1, [.null, .int 0, .int 0])), (q, .inl (cA, 1, .inl g))] H := hP
      have hD : va_D _ [(r, .inr (1, [.null, .int 0, .int 0])), (q, .inl (cA, 1, .inl g))] := hD
      refine W.eq (g2 := F0 m 52 ls [.int ((g ((0 : Int32).toNatClampNeg)) &&& 15)]) rfl ?_
      refine lv_iconst (v := 1) hx hb dX2_init_52 (by decide) ?_
      refine lv_icmp_ne (tgt := 67) hx hb dX2_init_53 (by decide) (fun c_53 => ?_) (fun c_53 => ?_)
      · refine lv_iinc (v := 1) (lv' := [(4, .int 1), (2, .int 1), (5, .int ((g ((0 : Int32).toNatClampNeg)) >>> ((4 : Int32) &&& 31))), (3, .int 0), (0, .ref r), (1, .ref q)]) hx hb dX2_init_67 hl (k := 2) rfl (by decide) (by decide) rfl (fun ls hl => ?_)
        refine lv_goto (tgt := 11) hx hb dX2_init_70 (by decide) ?_
        refine lv_iload hx hb dX2_init_11 (lv_at hl 0 rfl) ?_
        refine lv_aload_n hx hb dX2_init_13 rfl (lv_at hl 5 rfl) ?_
        refine va_alen hx hb hK hP 1 0 rfl rfl (v := 1) (show Int32.ofNat 1 = 1 from by decide) dX2_init_14 ?_
        refine lv_icmp_ge (tgt := 73) hx hb dX2_init_15 (by decide) (fun _ => ?_) (fun c9 => absurd (by decide) c9)
        refine lv_aload_n hx hb dX2_init_73 rfl (lv_at hl 4 rfl) ?_
        refine lv_aload_n hx hb dX2_init_74 rfl (lv_at hl 5 rfl) ?_
        refine va_putF (ci := 1) (v := .ref q) (ty := .array .int) (C := RX2) (T := TX2) (N := 3) hx hb hts inG_X2 tyX2 tyX2_ok nmX2 hown hK hP hD hS 0 rfl rfl 0 (by decide) (hts _ tw_1_103) (fun _ h9 => h9) rfl hnm rfl (by decide +kernel) rfl rfl (Nat.le_of_ble_eq_true rfl) dX2_init_75 (fun H locs hP hD hS => ?_)
        have hP : va_P D vwCl [(r, .inr (1, [.ref q, .int 0, .int 0])), (q, .inl (cA, 1, .inl g))] H := hP
        have hD : va_D _ [(r, .inr (1, [.ref q, .int 0, .int 0])), (q, .inl (cA, 1, .inl g))] := hD
        refine lv_aload_n hx hb dX2_init_78 rfl (lv_at hl 4 rfl) ?_
        refine lv_iload_n hx hb dX2_init_79 rfl (lv_at hl 1 rfl) ?_
        refine lv_if_ne (tgt := 87) hx hb dX2_init_80 (by decide) (fun _ => ?_) (fun c9 => absurd c9 (by decide))
        refine lv_iconst (v := 0) hx hb dX2_init_87 (by decide) ?_
        refine va_putF (ci := 1) (v := .int 0) (ty := .boolean) (C := RX2) (T := TX2) (N := 3) hx hb hts inG_X2 tyX2 tyX2_ok nmX2 hown hK hP hD hS 0 rfl rfl 1 (by decide) (hts _ tw_1_106) (fun _ h9 => h9) rfl hnm rfl (by decide +kernel) rfl rfl (Nat.le_of_ble_eq_true rfl) dX2_init_88 (fun H locs hP hD hS => ?_)
        have hP : va_P D vwCl [(r, .inr (1, [.ref q, .int 0, .int 0])), (q, .inl (cA, 1, .inl g))] H := hP
        have hD : va_D _ [(r, .inr (1, [.ref q, .int 0, .int 0])), (q, .inl (cA, 1, .inl g))] := hD
        refine lv_aload_n hx hb dX2_init_91 rfl (lv_at hl 4 rfl) ?_
        refine lv_iload_n hx hb dX2_init_92 rfl (lv_at hl 3 rfl) ?_
        refine va_putF (ci := 1) (v := .int 0) (ty := .int) (C := RX2) (T := TX2) (N := 3) hx hb hts inG_X2 tyX2 tyX2_ok nmX2 hown hK hP hD hS 0 rfl rfl 2 (by decide) (hts _ tw_1_108) (fun _ h9 => h9) rfl hnm rfl (by decide +kernel) rfl rfl (Nat.le_of_ble_eq_true rfl) dX2_init_93 (fun H locs hP hD hS => ?_)
        have hP : va_P D vwCl [(r, .inr (1, [.ref q, .int 0, .int 0])), (q, .inl (cA, 1, .inl g))] H := hP
        have hD : va_D _ [(r, .inr (1, [.ref q, .int 0, .int 0])), (q, .inl (cA, 1, .inl g))] := hD
        exact ck_vret ⟨0, 0⟩ hx hb hr hlocks rfl (hP.sub [0, 1] rfl) (hK.sub [0] rfl) (hD.sub [0, 1] (by decide) rfl) hS (by decide) (by decide) dX2_init_96
      · refine lv_iload hx hb dX2_init_56 (lv_at hl 1 rfl) ?_
        refine lv_iload_n hx hb dX2_init_58 rfl (lv_at hl 3 rfl) ?_
        refine lv_icmp_lt (tgt := 67) hx hb dX2_init_59 (by decide) (fun c_59 => ?_) (fun c_59 => ?_)
        · refine lv_iinc (v := 1) (lv' := [(4, .int 1), (2, .int 1), (5, .int ((g ((0 : Int32).toNatClampNeg)) >>> ((4 : Int32) &&& 31))), (3, .int 0), (0, .ref r), (1, .ref q)]) hx hb dX2_init_67 hl (k := 2) rfl (by decide) (by decide) rfl (fun ls hl => ?_)
          refine lv_goto (tgt := 11) hx hb dX2_init_70 (by decide) ?_
          refine lv_iload hx hb dX2_init_11 (lv_at hl 0 rfl) ?_
          refine lv_aload_n hx hb dX2_init_13 rfl (lv_at hl 5 rfl) ?_
          refine va_alen hx hb hK hP 1 0 rfl rfl (v := 1) (show Int32.ofNat 1 = 1 from by decide) dX2_init_14 ?_
          refine lv_icmp_ge (tgt := 73) hx hb dX2_init_15 (by decide) (fun _ => ?_) (fun c9 => absurd (by decide) c9)
          refine lv_aload_n hx hb dX2_init_73 rfl (lv_at hl 4 rfl) ?_
          refine lv_aload_n hx hb dX2_init_74 rfl (lv_at hl 5 rfl) ?_
          refine va_putF (ci := 1) (v := .ref q) (ty := .array .int) (C := RX2) (T := TX2) (N := 3) hx hb hts inG_X2 tyX2 tyX2_ok nmX2 hown hK hP hD hS 0 rfl rfl 0 (by decide) (hts _ tw_1_103) (fun _ h9 => h9) rfl hnm rfl (by decide +kernel) rfl rfl (Nat.le_of_ble_eq_true rfl) dX2_init_75 (fun H locs hP hD hS => ?_)
          have hP : va_P D vwCl [(r, .inr (1, [.ref q, .int 0, .int 0])), (q, .inl (cA, 1, .inl g))] H := hP
          have hD : va_D _ [(r, .inr (1, [.ref q, .int 0, .int 0])), (q, .inl (cA, 1, .inl g))] := hD
          refine lv_aload_n hx hb dX2_init_78 rfl (lv_at hl 4 rfl) ?_
          refine lv_iload_n hx hb dX2_init_79 rfl (lv_at hl 1 rfl) ?_
          refine lv_if_ne (tgt := 87) hx hb dX2_init_80 (by decide) (fun _ => ?_) (fun c9 => absurd c9 (by decide))
          refine lv_iconst (v := 0) hx hb dX2_init_87 (by decide) ?_
          refine va_putF (ci := 1) (v := .int 0) (ty := .boolean) (C := RX2) (T := TX2) (N := 3) hx hb hts inG_X2 tyX2 tyX2_ok nmX2 hown hK hP hD hS 0 rfl rfl 1 (by decide) (hts _ tw_1_106) (fun _ h9 => h9) rfl hnm rfl (by decide +kernel) rfl rfl (Nat.le_of_ble_eq_true rfl) dX2_init_88 (fun H locs hP hD hS => ?_)
          have hP : va_P D vwCl [(r, .inr (1, [.ref q, .int 0, .int 0])), (q, .inl (cA, 1, .inl g))] H := hP
          have hD : va_D _ [(r, .inr (1, [.ref q, .int 0, .int 0])), (q, .inl (cA, 1, .inl g))] := hD
          refine lv_aload_n hx hb dX2_init_91 rfl (lv_at hl 4 rfl) ?_
          refine lv_iload_n hx hb dX2_init_92 rfl (lv_at hl 3 rfl) ?_
          refine va_putF (ci := 1) (v := .int 0) (ty := .int) (C := RX2) (T := TX2) (N := 3) hx hb hts inG_X2 tyX2 tyX2_ok nmX2 hown hK hP hD hS 0 rfl rfl 2 (by decide) (hts _ tw_1_108) (fun _ h9 => h9) rfl hnm rfl (by decide +kernel) rfl rfl (Nat.le_of_ble_eq_true rfl) dX2_init_93 (fun H locs hP hD hS => ?_)
          have hP : va_P D vwCl [(r, .inr (1, [.ref q, .int 0, .int 0])), (q, .inl (cA, 1, .inl g))] H := hP
          have hD : va_D _ [(r, .inr (1, [.ref q, .int 0, .int 0])), (q, .inl (cA, 1, .inl g))] := hD
          exact ck_vret ⟨0, 0⟩ hx hb hr hlocks rfl (hP.sub [0, 1] rfl) (hK.sub [0] rfl) (hD.sub [0, 1] (by decide) rfl) hS (by decide) (by decide) dX2_init_96
        · refine lv_iload hx hb dX2_init_62 (lv_at hl 1 rfl) ?_
          refine lv_iconst (v := 1) hx hb dX2_init_64 (by decide) ?_
          refine lv_iadd hx hb dX2_init_65 ?_
          refine lv_topi (fun z_3 ez_3 => ?_)
          refine lv_istore_n (lv' := [(3, .int z_3), (2, .int 1), (5, .int ((g ((0 : Int32).toNatClampNeg)) >>> ((4 : Int32) &&& 31))), (4, .int 0), (0, .ref r), (1, .ref q)]) hx hb dX2_init_66 rfl hl (by decide) rfl (fun ls hl => ?_)
          refine lv_iinc (v := 1) (lv' := [(4, .int 1), (3, .int z_3), (2, .int 1), (5, .int ((g ((0 : Int32).toNatClampNeg)) >>> ((4 : Int32) &&& 31))), (0, .ref r), (1, .ref q)]) hx hb dX2_init_67 hl (k := 3) rfl (by decide) (by decide) rfl (fun ls hl => ?_)
          refine lv_goto (tgt := 11) hx hb dX2_init_70 (by decide) ?_
          refine lv_iload hx hb dX2_init_11 (lv_at hl 0 rfl) ?_
          refine lv_aload_n hx hb dX2_init_13 rfl (lv_at hl 5 rfl) ?_
          refine va_alen hx hb hK hP 1 0 rfl rfl (v := 1) (show Int32.ofNat 1 = 1 from by decide) dX2_init_14 ?_
          refine lv_icmp_ge (tgt := 73) hx hb dX2_init_15 (by decide) (fun _ => ?_) (fun c9 => absurd (by decide) c9)
          refine lv_aload_n hx hb dX2_init_73 rfl (lv_at hl 4 rfl) ?_
          refine lv_aload_n hx hb dX2_init_74 rfl (lv_at hl 5 rfl) ?_
          refine va_putF (ci := 1) (v := .ref q) (ty := .array .int) (C := RX2) (T := TX2) (N := 3) hx hb hts inG_X2 tyX2 tyX2_ok nmX2 hown hK hP hD hS 0 rfl rfl 0 (by decide) (hts _ tw_1_103) (fun _ h9 => h9) rfl hnm rfl (by decide +kernel) rfl rfl (Nat.le_of_ble_eq_true rfl) dX2_init_75 (fun H locs hP hD hS => ?_)
          have hP : va_P D vwCl [(r, .inr (1, [.ref q, .int 0, .int 0])), (q, .inl (cA, 1, .inl g))] H := hP
          have hD : va_D _ [(r, .inr (1, [.ref q, .int 0, .int 0])), (q, .inl (cA, 1, .inl g))] := hD
          refine lv_aload_n hx hb dX2_init_78 rfl (lv_at hl 4 rfl) ?_
          refine lv_iload_n hx hb dX2_init_79 rfl (lv_at hl 2 rfl) ?_
          refine lv_if_ne (tgt := 87) hx hb dX2_init_80 (by decide) (fun _ => ?_) (fun c9 => absurd c9 (by decide))
          refine lv_iconst (v := 0) hx hb dX2_init_87 (by decide) ?_
          refine va_putF (ci := 1) (v := .int 0) (ty := .boolean) (C := RX2) (T := TX2) (N := 3) hx hb hts inG_X2 tyX2 tyX2_ok nmX2 hown hK hP hD hS 0 rfl rfl 1 (by decide) (hts _ tw_1_106) (fun _ h9 => h9) rfl hnm rfl (by decide +kernel) rfl rfl (Nat.le_of_ble_eq_true rfl) dX2_init_88 (fun H locs hP hD hS => ?_)
          have hP : va_P D vwCl [(r, .inr (1, [.ref q, .int 0, .int 0])), (q, .inl (cA, 1, .inl g))] H := hP
          have hD : va_D _ [(r, .inr (1, [.ref q, .int 0, .int 0])), (q, .inl (cA, 1, .inl g))] := hD
          refine lv_aload_n hx hb dX2_init_91 rfl (lv_at hl 4 rfl) ?_
          refine lv_iload_n hx hb dX2_init_92 rfl (lv_at hl 1 rfl) ?_
          refine va_putF (ci := 1) (v := .int z_3) (ty := .int) (C := RX2) (T := TX2) (N := 3) hx hb hts inG_X2 tyX2 tyX2_ok nmX2 hown hK hP hD hS 0 rfl rfl 2 (by decide) (hts _ tw_1_108) (fun _ h9 => h9) rfl hnm rfl (by decide +kernel) rfl rfl (Nat.le_of_ble_eq_true rfl) dX2_init_93 (fun H locs hP hD hS => ?_)
          have hP : va_P D vwCl [(r, .inr (1, [.ref q, .int 0, .int z_3])), (q, .inl (cA, 1, .inl g))] H := hP
          have hD : va_D _ [(r, .inr (1, [.ref q, .int 0, .int z_3])), (q, .inl (cA, 1, .inl g))] := hD
          exact ck_vret ⟨0, z_3⟩ hx hb hr hlocks rfl (hP.sub [0, 1] rfl) (hK.sub [0] rfl) (hD.sub [0, 1] (by decide) rfl) hS (by decide) (by decide) dX2_init_96
set_option maxHeartbeats 4000000 in
set_option maxRecDepth 100000 in
theorem c_toForm (l : Launch) (D : va_G) (sz : Nat) (wk wc : Nat) (cI : ClassId) (f : Nat → Int32) : cM l yX4_toForm (.code yX4_toForm cX4_toForm 1 (some (.object "ThesisDesk$Form"))) 14 410 2 4 [.ref wk] D [(cI, .int)] [(wk, .inr (3, [.ref wc, .int 1, .int 0])), (wc, .inl (cI, 512, .inl f))] sz (S := Nat × Nat × ClassId × (Nat → Int32) × Int32 × Int32) (fun v u => v = some (.ref u.1)) (fun u => [(wk, .inr (3, [.ref wc, .int 1, .int 0])), (wc, .inl (cI, 512, .inl f)), (u.1, .inr (1, [.ref u.2.1, .int u.2.2.2.2.1, .int u.2.2.2.2.2])), (u.2.1, .inl (u.2.2.1, 1, .inl u.2.2.2.1))]) (fun u => [(cI, .int), (u.2.2.1, .int)]) := by
  refine cM_of (by decide) (Nat.le_of_ble_eq_true rfl) ?_
  intro p e s m below meth c ls hF hsz hP hK hD hE hZ hA hl
  obtain ⟨hx, hb, hr, hml, hown, hlocks, hnm, htb, hts⟩ := hF
  have hown : s.vm.findClass RX4 = some m.cls := hown
  have hl : lv_has ls 1 [(0, .ref wk)] := hl
  have hS : va_S (va_A [(wk, .inr (3, [.ref wc, .int 1, .int 0])), (wc, .inl (cI, 512, .inl f))] sz) s.heap s.heap [] := va_S.rf
  refine va_new (ci := 1) (fs := [.null, .int 0, .int 0]) (C := RX2) (T := TX2) (N := 3) hx hb hts inG_X2 tyX2 tyX2_ok hown (hts _ tw_1_75) (hts _ tw_1_76) (hts _ tw_1_4) hK hP hD hS hA rfl (by decide) (by decide) (by decide) dX4_toForm_0 (fun q_1 H hP hD hS => ?_)
  have hP : va_P D vwCl [(wk, .inr (3, [.ref wc, .int 1, .int 0])), (wc, .inl (cI, 512, .inl f)), (q_1, .inr (1, [.null, .int 0, .int 0]))] H := hP
  have hD : va_D _ [(wk, .inr (3, [.ref wc, .int 1, .int 0])), (wc, .inl (cI, 512, .inl f)), (q_1, .inr (1, [.null, .int 0, .int 0]))] := hD
  refine lv_dup hx hb dX4_toForm_3 rfl ?_
  refine lv_aload_n hx hb dX4_toForm_4 rfl (lv_at hl 0 rfl) ?_
  refine va_get (ci := 3) (v := .ref wc) (C := RX4) (T := TX4) (N := 3) hx hb hts inG_X4 hown hK hP 0 rfl rfl 0 (by decide) (hts _ tw_1_61) (fun _ h9 => h9) rfl dX4_toForm_5 ?_
  refine lv_aload_n hx hb dX4_toForm_8 rfl (lv_at hl 0 rfl) ?_
  refine va_get (ci := 3) (v := .int 1) (C := RX4) (T := TX4) (N := 3) hx hb hts inG_X4 hown hK hP 0 rfl rfl 1 (by decide) (hts _ tw_1_62) (fun _ h9 => h9) rfl dX4_toForm_9 ?_
  refine ck_run (wr := [(wk, .inr (3, [.ref wc, .int 1, .int 0])), (q_1, .inr (1, [.null, .int 0, .int 0]))]) (va_runS (As := [.ref wc, .int 1]) (rest := [.ref q_1, .ref q_1]) ⟨hx, hb, hml, hown, hts⟩ (c_copyOf l D H.size wc cI f) (cw_S (n := 2) hts tw_1_77 tw_1_78 tw_1_5 tw_1_79 (by decide +kernel) ⟨by decide, by decide⟩) ⟨pre.blind, fun U hU hW => ⟨rfl, pre.of (wc := [(wc, .inl (cI, 512, .inl f))]) (tysc := [(cI, .int)]) (tk := [0]) hP hD hK hS hA hE hZ [1] (by decide) rfl rfl rfl U hU hW⟩⟩ rfl rfl hl.1 rfl (lv_room (Nat.le_of_ble_eq_true rfl)) dX4_toForm_12 ⟨by decide, by decide⟩) hP hD hK hS hA [1] [0, 2] rfl rfl (by decide) (by decide) (fun v u H locs hw hP hD hK9 hS => ?_)
  obtain ⟨q_2, cA_3, g_4⟩ := u
  have hw : v = some (.ref q_2) := hw
  subst hw
  have hP : va_P D vwCl [(wk, .inr (3, [.ref wc, .int 1, .int 0])), (q_1, .inr (1, [.null, .int 0, .int 0])), (wc, .inl (cI, 512, .inl f)), (q_2, .inl (cA_3, 1, .inl g_4))] H := hP
  have hD : va_D _ [(wk, .inr (3, [.ref wc, .int 1, .int 0])), (q_1, .inr (1, [.null, .int 0, .int 0])), (wc, .inl (cI, 512, .inl f)), (q_2, .inl (cA_3, 1, .inl g_4))] := hD
  have hK : va_K D vwCl [(cI, .int), (cA_3, .int)] s := hK9.sub [0, 2] rfl
  refine W.eq (g2 := F0 m 15 ls [.ref q_2, .ref q_1, .ref q_1]) rfl ?_
  refine ck_run (wr := [(wk, .inr (3, [.ref wc, .int 1, .int 0])), (wc, .inl (cI, 512, .inl f))]) (va_runI (As := [.ref q_2]) (rest := [.ref q_1]) ⟨hx, hb, hml, hown, hts⟩ (c_formInit l D H.size q_1 q_2 cA_3 g_4) (cw_I (n := 1) hts tw_1_93 tw_1_94 tw_1_4 tw_1_95 rfl (by decide +kernel) ⟨by decide, by decide⟩) ⟨pre.blind, fun U hU hW => ⟨rfl, pre.of (wc := [(q_1, .inr (1, [.null, .int 0, .int 0])), (q_2, .inl (cA_3, 1, .inl g_4))]) (tysc := [(cA_3, .int)]) (tk := [1]) hP hD hK hS hA hE hZ [1, 3] (by decide) rfl rfl rfl U hU hW⟩⟩ rfl rfl hl.1 rfl (lv_room (Nat.le_of_ble_eq_true rfl)) dX4_toForm_15 ⟨by decide, by decide⟩) hP hD hK hS hA [1, 3] [0, 2] rfl rfl (by decide) (by decide) (fun v u H locs hw hP hD hK9 hS => ?_)
  obtain ⟨w_5, z_6⟩ := u
  have hw : v = none := hw
  subst hw
  have hP : va_P D vwCl [(wk, .inr (3, [.ref wc, .int 1, .int 0])), (wc, .inl (cI, 512, .inl f)), (q_1, .inr (1, [.ref q_2, .int w_5, .int z_6])), (q_2, .inl (cA_3, 1, .inl g_4))] H := hP
  have hD : va_D _ [(wk, .inr (3, [.ref wc, .int 1, .int 0])), (wc, .inl (cI, 512, .inl f)), (q_1, .inr (1, [.ref q_2, .int w_5, .int z_6])), (q_2, .inl (cA_3, 1, .inl g_4))] := hD
  refine W.eq (g2 := F0 m 18 ls [.ref q_1]) rfl ?_
  exact ck_aret ⟨q_1, q_2, cA_3, g_4, w_5, z_6⟩ hx hb hr (Or.inl ⟨_, rfl⟩) (Or.inr ⟨_, rfl⟩) hlocks rfl (hP.sub [0, 1, 2, 3] rfl) (hK.sub [0, 1] rfl) (hD.sub [0, 1, 2, 3] (by decide) rfl) hS (by decide) (by decide) dX4_toForm_18
