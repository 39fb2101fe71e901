set_option maxHeartbeats 4000000 in
set_option maxRecDepth 100000 in
theorem r_setOnly (l : Launch) (D : va_G) (sz : Nat) (r rc : Nat) (cR : ClassId) (f : Nat → Int32) (n z : Int32) (a : Int32) : cM l yX4_setOnly (.code yX4_setOnly cX4_setOnly 2 none) 10 270 0 0 [.ref r, .int a] D [(cR, .int)] [(r, .inr (3, [.ref rc, .int n, .int z])), (rc, .inl (cR, 512, .inl f))] sz (S := Unit) (fun v _ => v = none) (fun _ => [(r, .inr (3, [.ref rc, .int 1, .int 0])), (rc, .inl (cR, 512, .inl (upd f ((0 : Int32).toNatClampNeg) a)))]) (fun _ => [(cR, .int)]) := by
  refine cM_of (by decide) (Nat.le_of_ble_eq_true rfl) ?_
  intro p e s m below meth c ls hF hsz hP hK hD hE hZ hA hl
  obtain ⟨hx, hb, hr, hml, hown, hlocks, hnm, htb, hts⟩ := hF
  have hown : s.vm.findClass RX4 = some m.cls := hown
  have hl : lv_has ls 2 [(0, .ref r), (1, .int a)] := hl
  have hS : va_S (va_A [(r, .inr (3, [.ref rc, .int n, .int z])), (rc, .inl (cR, 512, .inl f))] sz) s.heap s.heap [] := va_S.rf
  refine lv_aload_n hx hb dX4_setOnly_0 rfl (lv_at hl 0 rfl) ?_
  refine va_get (ci := 3) (v := .ref rc) (C := RX4) (T := TX4) (N := 3) hx hb hts inG_X4 hown hK hP 0 rfl rfl 0 (by decide) (hts _ tw_1_61) (fun _ h9 => h9) rfl dX4_setOnly_1 ?_
  refine lv_iconst (v := 0) hx hb dX4_setOnly_4 (by decide) ?_
  refine lv_iload_n hx hb dX4_setOnly_5 rfl (lv_at hl 1 rfl) ?_
  refine va_iast hx hb hK hP hD hS 1 0 rfl rfl (vi (by decide)) dX4_setOnly_6 (fun H locs hP hD hS => ?_)
  have hP : va_P D vwCl [(r, .inr (3, [.ref rc, .int n, .int z])), (rc, .inl (cR, 512, .inl (upd f ((0 : Int32).toNatClampNeg) a)))] H := hP
  have hD : va_D _ [(r, .inr (3, [.ref rc, .int n, .int z])), (rc, .inl (cR, 512, .inl (upd f ((0 : Int32).toNatClampNeg) a)))] := hD
  refine lv_aload_n hx hb dX4_setOnly_7 rfl (lv_at hl 0 rfl) ?_
  refine lv_iconst (v := 1) hx hb dX4_setOnly_8 (by decide) ?_
  refine va_put (ci := 3) (v := .int 1) (ty := .int) (C := RX4) (T := TX4) (N := 3) hx hb hts inG_X4 tyX4 tyX4_ok nmX4 hown hK hP hD hS 0 rfl rfl 1 (by decide) (hts _ tw_1_62) (fun _ h9 => h9) rfl (by decide +kernel) rfl rfl (Nat.le_of_ble_eq_true rfl) dX4_setOnly_9 (fun H locs hP hD hS => ?_)
  have hP : va_P D vwCl [(r, .inr (3, [.ref rc, .int 1, .int z])), (rc, .inl (cR, 512, .inl (upd f ((0 : Int32).toNatClampNeg) a)))] H := hP
  have hD : va_D _ [(r, .inr (3, [.ref rc, .int 1, .int z])), (rc, .inl (cR, 512, .inl (upd f ((0 : Int32).toNatClampNeg) a)))] := hD
  refine lv_aload_n hx hb dX4_setOnly_12 rfl (lv_at hl 0 rfl) ?_
  refine lv_iconst (v := 0) hx hb dX4_setOnly_13 (by decide) ?_
  refine va_put (ci := 3) (v := .int 0) (ty := .boolean) (C := RX4) (T := TX4) (N := 3) hx hb hts inG_X4 tyX4 tyX4_ok nmX4 hown hK hP hD hS 0 rfl rfl 2 (by decide) (hts _ tw_1_63) (fun _ h9 => h9) rfl (by decide +kernel) rfl rfl (Nat.le_of_ble_eq_true rfl) dX4_setOnly_14 (fun H locs hP hD hS => ?_)
  have hP : va_P D vwCl [(r, .inr (3, [.ref rc, .int 1, .int 0])), (rc, .inl (cR, 512, .inl (upd f ((0 : Int32).toNatClampNeg) a)))] H := hP
  have hD : va_D _ [(r, .inr (3, [.ref rc, .int 1, .int 0])), (rc, .inl (cR, 512, .inl (upd f ((0 : Int32).toNatClampNeg) a)))] := hD
  exact ck_vret () hx hb hr hlocks rfl (hP.sub [0, 1] rfl) (hK.sub [0] rfl) (hD.sub [0, 1] (by decide) rfl) hS (by decide) (by decide) dX4_setOnly_17
set_option maxHeartbeats 4000000 in
set_option maxRecDepth 100000 in
theorem r_setNotTrue (l : Launch) (D : va_G) (sz : Nat) (r rc : Nat) (cR : ClassId) (f : Nat → Int32) (n z : Int32) : cM l yX4_setNotTrue (.code yX4_setNotTrue cX4_setNotTrue 1 none) 10 270 0 0 [.ref r] D [(cR, .int)] [(r, .inr (3, [.ref rc, .int n, .int z])), (rc, .inl (cR, 512, .inl f))] sz (S := Unit) (fun v _ => v = none) (fun _ => [(r, .inr (3, [.ref rc, .int 2, .int 0])), (rc, .inl (cR, 512, .inl (upd (upd f ((0 : Int32).toNatClampNeg) 6) ((1 : Int32).toNatClampNeg) 3)))]) (fun _ => [(cR, .int)]) := by
  refine cM_of (by decide) (Nat.le_of_ble_eq_true rfl) ?_
  intro p e s m below meth c ls hF hsz hP hK hD hE hZ hA hl
  obtain ⟨hx, hb, hr, hml, hown, hlocks, hnm, htb, hts⟩ := hF
  have hown : s.vm.findClass RX4 = some m.cls := hown
  have hl : lv_has ls 1 [(0, .ref r)] := hl
  have hS : va_S (va_A [(r, .inr (3, [.ref rc, .int n, .int z])), (rc, .inl (cR, 512, .inl f))] sz) s.heap s.heap [] := va_S.rf
  refine lv_aload_n hx hb dX4_setNotTrue_0 rfl (lv_at hl 0 rfl) ?_
  refine va_get (ci := 3) (v := .ref rc) (C := RX4) (T := TX4) (N := 3) hx hb hts inG_X4 hown hK hP 0 rfl rfl 0 (by decide) (hts _ tw_1_61) (fun _ h9 => h9) rfl dX4_setNotTrue_1 ?_
  refine lv_iconst (v := 0) hx hb dX4_setNotTrue_4 (by decide) ?_
  refine lv_bipush (v := 6) hx hb dX4_setNotTrue_5 (by decide) ?_
  refine va_iast hx hb hK hP hD hS 1 0 rfl rfl (vi (by decide)) dX4_setNotTrue_7 (fun H locs hP hD hS => ?_)
  have hP : va_P D vwCl [(r, .inr (3, [.ref rc, .int n, .int z])), (rc, .inl (cR, 512, .inl (upd f ((0 : Int32).toNatClampNeg) 6)))] H := hP
  have hD : va_D _ [(r, .inr (3, [.ref rc, .int n, .int z])), (rc, .inl (cR, 512, .inl (upd f ((0 : Int32).toNatClampNeg) 6)))] := hD
  refine lv_aload_n hx hb dX4_setNotTrue_8 rfl (lv_at hl 0 rfl) ?_
  refine va_get (ci := 3) (v := .ref rc) (C := RX4) (T := TX4) (N := 3) hx hb hts inG_X4 hown hK hP 0 rfl rfl 0 (by decide) (hts _ tw_1_61) (fun _ h9 => h9) rfl dX4_setNotTrue_9 ?_
  refine lv_iconst (v := 1) hx hb dX4_setNotTrue_12 (by decide) ?_
  refine lv_iconst (v := 3) hx hb dX4_setNotTrue_13 (by decide) ?_
  refine va_iast hx hb hK hP hD hS 1 0 rfl rfl (vi (by decide)) dX4_setNotTrue_14 (fun H locs hP hD hS => ?_)
  have hP : va_P D vwCl [(r, .inr (3, [.ref rc, .int n, .int z])), (rc, .inl (cR, 512, .inl (upd (upd f ((0 : Int32).toNatClampNeg) 6) ((1 : Int32).toNatClampNeg) 3)))] H := hP
  have hD : va_D _ [(r, .inr (3, [.ref rc, .int n, .int z])), (rc, .inl (cR, 512, .inl (upd (upd f ((0 : Int32).toNatClampNeg) 6) ((1 : Int32).toNatClampNeg) 3)))] := hD
  refine lv_aload_n hx hb dX4_setNotTrue_15 rfl (lv_at hl 0 rfl) ?_
  refine lv_iconst (v := 2) hx hb dX4_setNotTrue_16 (by decide) ?_
  refine va_put (ci := 3) (v := .int 2) (ty := .int) (C := RX4) (T := TX4) (N := 3) hx hb hts inG_X4 tyX4 tyX4_ok nmX4 hown hK hP hD hS 0 rfl rfl 1 (by decide) (hts _ tw_1_62) (fun _ h9 => h9) rfl (by decide +kernel) rfl rfl (Nat.le_of_ble_eq_true rfl) dX4_setNotTrue_17 (fun H locs hP hD hS => ?_)
  have hP : va_P D vwCl [(r, .inr (3, [.ref rc, .int 2, .int z])), (rc, .inl (cR, 512, .inl (upd (upd f ((0 : Int32).toNatClampNeg) 6) ((1 : Int32).toNatClampNeg) 3)))] H := hP
  have hD : va_D _ [(r, .inr (3, [.ref rc, .int 2, .int z])), (rc, .inl (cR, 512, .inl (upd (upd f ((0 : Int32).toNatClampNeg) 6) ((1 : Int32).toNatClampNeg) 3)))] := hD
  refine lv_aload_n hx hb dX4_setNotTrue_20 rfl (lv_at hl 0 rfl) ?_
  refine lv_iconst (v := 0) hx hb dX4_setNotTrue_21 (by decide) ?_
  refine va_put (ci := 3) (v := .int 0) (ty := .boolean) (C := RX4) (T := TX4) (N := 3) hx hb hts inG_X4 tyX4 tyX4_ok nmX4 hown hK hP hD hS 0 rfl rfl 2 (by decide) (hts _ tw_1_63) (fun _ h9 => h9) rfl (by decide +kernel) rfl rfl (Nat.le_of_ble_eq_true rfl) dX4_setNotTrue_22 (fun H locs hP hD hS => ?_)
  have hP : va_P D vwCl [(r, .inr (3, [.ref rc, .int 2, .int 0])), (rc, .inl (cR, 512, .inl (upd (upd f ((0 : Int32).toNatClampNeg) 6) ((1 : Int32).toNatClampNeg) 3)))] H := hP
  have hD : va_D _ [(r, .inr (3, [.ref rc, .int 2, .int 0])), (rc, .inl (cR, 512, .inl (upd (upd f ((0 : Int32).toNatClampNeg) 6) ((1 : Int32).toNatClampNeg) 3)))] := hD
  exact ck_vret () hx hb hr hlocks rfl (hP.sub [0, 1] rfl) (hK.sub [0] rfl) (hD.sub [0, 1] (by decide) rfl) hS (by decide) (by decide) dX4_setNotTrue_25
set_option maxHeartbeats 4000000 in
set_option maxRecDepth 100000 in
theorem c_add (l : Launch) (D : va_G) (sz : Nat) (r rc : Nat) (cR : ClassId) (f : Nat → Int32) (n z : Int32) (a : Int32) (hn : r_ok n) : cM l yX4_add (.code yX4_add cX4_add 2 none) 10 270 0 0 [.ref r, .int a] D [(cR, .int)] [(r, .inr (3, [.ref rc, .int n, .int z])), (rc, .inl (cR, 512, .inl f))] sz (S := (Nat → Int32) × Int32 × Int32) (fun v u => v = none ∧ r_add a f n z = (u.1, u.2.1, u.2.2)) (fun u => [(r, .inr (3, [.ref rc, .int u.2.1, .int u.2.2])), (rc, .inl (cR, 512, .inl u.1))]) (fun u => [(cR, .int)]) := by
  refine cM_of (by decide) (Nat.le_of_ble_eq_true rfl) ?_
  intro p e s m below meth c ls hF hsz hP hK hD hE hZ hA hl
  obtain ⟨hx, hb, hr, hml, hown, hlocks, hnm, htb, hts⟩ := hF
  have hown : s.vm.findClass RX4 = some m.cls := hown
  have hl : lv_has ls 2 [(0, .ref r), (1, .int a)] := hl
  have hS : va_S (va_A [(r, .inr (3, [.ref rc, .int n, .int z])), (rc, .inl (cR, 512, .inl f))] sz) s.heap s.heap [] := va_S.rf
  refine lv_aload_n hx hb dX4_add_0 rfl (lv_at hl 0 rfl) ?_
  refine va_get (ci := 3) (v := .int n) (C := RX4) (T := TX4) (N := 3) hx hb hts inG_X4 hown hK hP 0 rfl rfl 1 (by decide) (hts _ tw_1_62) (fun _ h9 => h9) rfl dX4_add_1 ?_
  refine lv_sipush (v := 512) hx hb dX4_add_4 (by decide) ?_
  refine lv_icmp_ge (tgt := 30) hx hb dX4_add_7 (by decide) (fun c_7 => ?_) (fun c_7 => ?_)
  · exact ck_vret ⟨f, n, z⟩ hx hb hr hlocks ⟨rfl, (by unfold r_add; rw [if_pos c_7] <;> (first | rfl))⟩ (hP.sub [0, 1] rfl) (hK.sub [0] rfl) (hD.sub [0, 1] (by decide) rfl) hS (by decide) (by decide) dX4_add_30
  · refine lv_aload_n hx hb dX4_add_10 rfl (lv_at hl 0 rfl) ?_
    refine va_get (ci := 3) (v := .ref rc) (C := RX4) (T := TX4) (N := 3) hx hb hts inG_X4 hown hK hP 0 rfl rfl 0 (by decide) (hts _ tw_1_61) (fun _ h9 => h9) rfl dX4_add_11 ?_
    refine lv_aload_n hx hb dX4_add_14 rfl (lv_at hl 0 rfl) ?_
    refine va_get (ci := 3) (v := .int n) (C := RX4) (T := TX4) (N := 3) hx hb hts inG_X4 hown hK hP 0 rfl rfl 1 (by decide) (hts _ tw_1_62) (fun _ h9 => h9) rfl dX4_add_15 ?_
    refine lv_iload_n hx hb dX4_add_18 rfl (lv_at hl 1 rfl) ?_
    refine va_iast hx hb hK hP hD hS 1 0 rfl rfl (r_in hn c_7) dX4_add_19 (fun H locs hP hD hS => ?_)
    have hP : va_P D vwCl [(r, .inr (3, [.ref rc, .int n, .int z])), (rc, .inl (cR, 512, .inl (upd f (n.toNatClampNeg) a)))] H := hP
    have hD : va_D _ [(r, .inr (3, [.ref rc, .int n, .int z])), (rc, .inl (cR, 512, .inl (upd f (n.toNatClampNeg) a)))] := hD
    refine lv_aload_n hx hb dX4_add_20 rfl (lv_at hl 0 rfl) ?_
    refine lv_dup hx hb dX4_add_21 rfl ?_
    refine va_get (ci := 3) (v := .int n) (C := RX4) (T := TX4) (N := 3) hx hb hts inG_X4 hown hK hP 0 rfl rfl 1 (by decide) (hts _ tw_1_62) (fun _ h9 => h9) rfl dX4_add_22 ?_
    refine lv_iconst (v := 1) hx hb dX4_add_25 (by decide) ?_
    refine lv_iadd hx hb dX4_add_26 ?_
    refine ck_top (y := n + 1) rfl ?_
    refine va_put (ci := 3) (v := .int (n + 1)) (ty := .int) (C := RX4) (T := TX4) (N := 3) hx hb hts inG_X4 tyX4 tyX4_ok nmX4 hown hK hP hD hS 0 rfl rfl 1 (by decide) (hts _ tw_1_62) (fun _ h9 => h9) rfl (by decide +kernel) rfl rfl (Nat.le_of_ble_eq_true rfl) dX4_add_27 (fun H locs hP hD hS => ?_)
    have hP : va_P D vwCl [(r, .inr (3, [.ref rc, .int (n + 1), .int z])), (rc, .inl (cR, 512, .inl (upd f (n.toNatClampNeg) a)))] H := hP
    have hD : va_D _ [(r, .inr (3, [.ref rc, .int (n + 1), .int z])), (rc, .inl (cR, 512, .inl (upd f (n.toNatClampNeg) a)))] := hD
    exact ck_vret ⟨upd f (n.toNatClampNeg) a, n + 1, z⟩ hx hb hr hlocks ⟨rfl, (by unfold r_add; rw [if_neg c_7] <;> (first | rfl))⟩ (hP.sub [0, 1] rfl) (hK.sub [0] rfl) (hD.sub [0, 1] (by decide) rfl) hS (by decide) (by decide) dX4_add_30
set_option maxHeartbeats 4000000 in
set_option maxRecDepth 100000 in
theorem c_put (l : Launch) (D : va_G) (sz : Nat) (r rc : Nat) (cR : ClassId) (f : Nat → Int32) (n z : Int32) (a : Int32) (hn : r_ok n) : cM l yX4_putFirst (.code yX4_putFirst cX4_putFirst 2 none) 10 270 0 0 [.ref r, .int a] D [(cR, .int)] [(r, .inr (3, [.ref rc, .int n, .int z])), (rc, .inl (cR, 512, .inl f))] sz (S := (Nat → Int32) × Int32 × Int32) (fun v u => v = none ∧ r_put a f n z = (u.1, u.2.1, u.2.2)) (fun u => [(r, .inr (3, [.ref rc, .int u.2.1, .int u.2.2])), (rc, .inl (cR, 512, .inl u.1))]) (fun u => [(cR, .int)]) := by
  refine cM_of (by decide) (Nat.le_of_ble_eq_true rfl) ?_
  intro p e s m below meth c ls hF hsz hP hK hD hE hZ hA hl
  obtain ⟨hx, hb, hr, hml, hown, hlocks, hnm, htb, hts⟩ := hF
  have hown : s.vm.findClass RX4 = some m.cls := hown
  have hl : lv_has ls 2 [(0, .ref r), (1, .int a)] := hl
  have hS : va_S (va_A [(r, .inr (3, [.ref rc, .int n, .int z])), (rc, .inl (cR, 512, .inl f))] sz) s.heap s.heap [] := va_S.rf
  refine lv_aload_n hx hb dX4_putFirst_0 rfl (lv_at hl 0 rfl) ?_
  refine va_get (ci := 3) (v := .int n) (C := RX4) (T := TX4) (N := 3) hx hb hts inG_X4 hown hK hP 0 rfl rfl 1 (by decide) (hts _ tw_1_62) (fun _ h9 => h9) rfl dX4_putFirst_1 ?_
  refine lv_sipush (v := 240) hx hb dX4_putFirst_4 (by decide) ?_
  refine lv_icmp_lt (tgt := 16) hx hb dX4_putFirst_7 (by decide) (fun c_7 => ?_) (fun c_7 => ?_)
  · refine lv_aload_n hx hb dX4_putFirst_16 rfl (lv_at hl 0 rfl) ?_
    refine va_get (ci := 3) (v := .ref rc) (C := RX4) (T := TX4) (N := 3) hx hb hts inG_X4 hown hK hP 0 rfl rfl 0 (by decide) (hts _ tw_1_61) (fun _ h9 => h9) rfl dX4_putFirst_17 ?_
    refine lv_iconst (v := 0) hx hb dX4_putFirst_20 (by decide) ?_
    refine lv_aload_n hx hb dX4_putFirst_21 rfl (lv_at hl 0 rfl) ?_
    refine va_get (ci := 3) (v := .ref rc) (C := RX4) (T := TX4) (N := 3) hx hb hts inG_X4 hown hK hP 0 rfl rfl 0 (by decide) (hts _ tw_1_61) (fun _ h9 => h9) rfl dX4_putFirst_22 ?_
    refine lv_iconst (v := 1) hx hb dX4_putFirst_25 (by decide) ?_
    refine lv_aload_n hx hb dX4_putFirst_26 rfl (lv_at hl 0 rfl) ?_
    refine va_get (ci := 3) (v := .int n) (C := RX4) (T := TX4) (N := 3) hx hb hts inG_X4 hown hK hP 0 rfl rfl 1 (by decide) (hts _ tw_1_62) (fun _ h9 => h9) rfl dX4_putFirst_27 ?_
    refine va_copyi (ty := .int) hx hb (hml.trans hl.1.symm) hown (hts _ tw_2_140) (hts _ tw_acn) (hts _ tw_acs) (hts _ tw_aci) hK hP hD hS 1 1 0 0 rfl rfl rfl rfl rfl (by decide) (by decide) (r_ge0 hn) (by have q := r_cl hn; rw [sb_cl0]; omega) (by have q1 := i_lt c_7; have q2 := i_le hn.1; rw [i240] at q1; rw [i1] at q2; rw [i_clamp, i_clamp, i1]; omega) (fun _ _ => rfl) (by decide) (Nat.le_of_ble_eq_true rfl) dX4_putFirst_30 (fun H locs hP hD hS => ?_)
    have hP : va_P D vwCl [(r, .inr (3, [.ref rc, .int n, .int z])), (rc, .inl (cR, 512, .inl (va_cpy f f ((0 : Int32).toNatClampNeg) ((1 : Int32).toNatClampNeg) (n.toNatClampNeg))))] H := hP
    have hD : va_D _ [(r, .inr (3, [.ref rc, .int n, .int z])), (rc, .inl (cR, 512, .inl (va_cpy f f ((0 : Int32).toNatClampNeg) ((1 : Int32).toNatClampNeg) (n.toNatClampNeg))))] := hD
    refine lv_aload_n hx hb dX4_putFirst_33 rfl (lv_at hl 0 rfl) ?_
    refine va_get (ci := 3) (v := .ref rc) (C := RX4) (T := TX4) (N := 3) hx hb hts inG_X4 hown hK hP 0 rfl rfl 0 (by decide) (hts _ tw_1_61) (fun _ h9 => h9) rfl dX4_putFirst_34 ?_
    refine lv_iconst (v := 0) hx hb dX4_putFirst_37 (by decide) ?_
    refine lv_iload_n hx hb dX4_putFirst_38 rfl (lv_at hl 1 rfl) ?_
    refine va_iast hx hb hK hP hD hS 1 0 rfl rfl (vi (by decide)) dX4_putFirst_39 (fun H locs hP hD hS => ?_)
    have hP : va_P D vwCl [(r, .inr (3, [.ref rc, .int n, .int z])), (rc, .inl (cR, 512, .inl (upd (va_cpy f f ((0 : Int32).toNatClampNeg) ((1 : Int32).toNatClampNeg) (n.toNatClampNeg)) ((0 : Int32).toNatClampNeg) a)))] H := hP
    have hD : va_D _ [(r, .inr (3, [.ref rc, .int n, .int z])), (rc, .inl (cR, 512, .inl (upd (va_cpy f f ((0 : Int32).toNatClampNeg) ((1 : Int32).toNatClampNeg) (n.toNatClampNeg)) ((0 : Int32).toNatClampNeg) a)))] := hD
    refine lv_aload_n hx hb dX4_putFirst_40 rfl (lv_at hl 0 rfl) ?_
    refine lv_dup hx hb dX4_putFirst_41 rfl ?_
    refine va_get (ci := 3) (v := .int n) (C := RX4) (T := TX4) (N := 3) hx hb hts inG_X4 hown hK hP 0 rfl rfl 1 (by decide) (hts _ tw_1_62) (fun _ h9 => h9) rfl dX4_putFirst_42 ?_
    refine lv_iconst (v := 1) hx hb dX4_putFirst_45 (by decide) ?_
    refine lv_iadd hx hb dX4_putFirst_46 ?_
    refine ck_top (y := n + 1) rfl ?_
    refine va_put (ci := 3) (v := .int (n + 1)) (ty := .int) (C := RX4) (T := TX4) (N := 3) hx hb hts inG_X4 tyX4 tyX4_ok nmX4 hown hK hP hD hS 0 rfl rfl 1 (by decide) (hts _ tw_1_62) (fun _ h9 => h9) rfl (by decide +kernel) rfl rfl (Nat.le_of_ble_eq_true rfl) dX4_putFirst_47 (fun H locs hP hD hS => ?_)
    have hP : va_P D vwCl [(r, .inr (3, [.ref rc, .int (n + 1), .int z])), (rc, .inl (cR, 512, .inl (upd (va_cpy f f ((0 : Int32).toNatClampNeg) ((1 : Int32).toNatClampNeg) (n.toNatClampNeg)) ((0 : Int32).toNatClampNeg) a)))] H := hP
    have hD : va_D _ [(r, .inr (3, [.ref rc, .int (n + 1), .int z])), (rc, .inl (cR, 512, .inl (upd (va_cpy f f ((0 : Int32).toNatClampNeg) ((1 : Int32).toNatClampNeg) (n.toNatClampNeg)) ((0 : Int32).toNatClampNeg) a)))] := hD
    exact ck_vret ⟨upd (va_cpy f f ((0 : Int32).toNatClampNeg) ((1 : Int32).toNatClampNeg) (n.toNatClampNeg)) ((0 : Int32).toNatClampNeg) a, n + 1, z⟩ hx hb hr hlocks ⟨rfl, (by unfold r_put; rw [if_pos c_7] <;> (first | rfl))⟩ (hP.sub [0, 1] rfl) (hK.sub [0] rfl) (hD.sub [0, 1] (by decide) rfl) hS (by decide) (by decide) dX4_putFirst_50
  · refine lv_aload_n hx hb dX4_putFirst_10 rfl (lv_at hl 0 rfl) ?_
    refine lv_iconst (v := 1) hx hb dX4_putFirst_11 (by decide) ?_
    refine va_put (ci := 3) (v := .int 1) (ty := .boolean) (C := RX4) (T := TX4) (N := 3) hx hb hts inG_X4 tyX4 tyX4_ok nmX4 hown hK hP hD hS 0 rfl rfl 2 (by decide) (hts _ tw_1_63) (fun _ h9 => h9) rfl (by decide +kernel) rfl rfl (Nat.le_of_ble_eq_true rfl) dX4_putFirst_12 (fun H locs hP hD hS => ?_)
    have hP : va_P D vwCl [(r, .inr (3, [.ref rc, .int n, .int 1])), (rc, .inl (cR, 512, .inl f))] H := hP
    have hD : va_D _ [(r, .inr (3, [.ref rc, .int n, .int 1])), (rc, .inl (cR, 512, .inl f))] := hD
    exact ck_vret ⟨f, n, 1⟩ hx hb hr hlocks ⟨rfl, (by unfold r_put; rw [if_neg c_7] <;> (first | rfl))⟩ (hP.sub [0, 1] rfl) (hK.sub [0] rfl) (hD.sub [0, 1] (by decide) rfl) hS (by decide) (by decide) dX4_putFirst_15
set_option maxHeartbeats 4000000 in
set_option maxRecDepth 100000 in
theorem c_drop (l : Launch) (D : va_G) (sz : Nat) (r rc : Nat) (cR : ClassId) (f : Nat → Int32) (n z : Int32) (k : Int32) (hn : r_ok n) : cM l yX4_dropFirst (.code yX4_dropFirst cX4_dropFirst 2 none) 10 270 0 0 [.ref r, .int k] D [(cR, .int)] [(r, .inr (3, [.ref rc, .int n, .int z])), (rc, .inl (cR, 512, .inl f))] sz (S := (Nat → Int32) × Int32 × Int32) (fun v u => v = none ∧ r_drop k f n z = (u.1, u.2.1, u.2.2)) (fun u => [(r, .inr (3, [.ref rc, .int u.2.1, .int u.2.2])), (rc, .inl (cR, 512, .inl u.1))]) (fun u => [(cR, .int)]) := by
  refine cM_of (by decide) (Nat.le_of_ble_eq_true rfl) ?_
  intro p e s m below meth c ls hF hsz hP hK hD hE hZ hA hl
  obtain ⟨hx, hb, hr, hml, hown, hlocks, hnm, htb, hts⟩ := hF
  have hown : s.vm.findClass RX4 = some m.cls := hown
  have hl : lv_has ls 2 [(0, .ref r), (1, .int k)] := hl
  have hS : va_S (va_A [(r, .inr (3, [.ref rc, .int n, .int z])), (rc, .inl (cR, 512, .inl f))] sz) s.heap s.heap [] := va_S.rf
  refine lv_iload_n hx hb dX4_dropFirst_0 rfl (lv_at hl 1 rfl) ?_
  refine lv_if_lt (tgt := 12) hx hb dX4_dropFirst_1 (by decide) (fun c_1 => ?_) (fun c_1 => ?_)
  · exact ck_vret ⟨f, n, z⟩ hx hb hr hlocks ⟨rfl, (by unfold r_drop; rw [if_pos c_1] <;> (first | rfl))⟩ (hP.sub [0, 1] rfl) (hK.sub [0] rfl) (hD.sub [0, 1] (by decide) rfl) hS (by decide) (by decide) dX4_dropFirst_12
  · refine lv_iload_n hx hb dX4_dropFirst_4 rfl (lv_at hl 1 rfl) ?_
    refine lv_aload_n hx hb dX4_dropFirst_5 rfl (lv_at hl 0 rfl) ?_
    refine va_get (ci := 3) (v := .int n) (C := RX4) (T := TX4) (N := 3) hx hb hts inG_X4 hown hK hP 0 rfl rfl 1 (by decide) (hts _ tw_1_62) (fun _ h9 => h9) rfl dX4_dropFirst_6 ?_
    refine lv_icmp_lt (tgt := 13) hx hb dX4_dropFirst_9 (by decide) (fun c_9 => ?_) (fun c_9 => ?_)
    · refine lv_aload_n hx hb dX4_dropFirst_13 rfl (lv_at hl 0 rfl) ?_
      refine va_get (ci := 3) (v := .ref rc) (C := RX4) (T := TX4) (N := 3) hx hb hts inG_X4 hown hK hP 0 rfl rfl 0 (by decide) (hts _ tw_1_61) (fun _ h9 => h9) rfl dX4_dropFirst_14 ?_
      refine lv_iload_n hx hb dX4_dropFirst_17 rfl (lv_at hl 1 rfl) ?_
      refine lv_aload_n hx hb dX4_dropFirst_18 rfl (lv_at hl 0 rfl) ?_
      refine va_get (ci := 3) (v := .ref rc) (C := RX4) (T := TX4) (N := 3) hx hb hts inG_X4 hown hK hP 0 rfl rfl 0 (by decide) (hts _ tw_1_61) (fun _ h9 => h9) rfl dX4_dropFirst_19 ?_
      refine lv_iconst (v := 0) hx hb dX4_dropFirst_22 (by decide) ?_
      refine lv_aload_n hx hb dX4_dropFirst_23 rfl (lv_at hl 0 rfl) ?_
      refine va_get (ci := 3) (v := .int n) (C := RX4) (T := TX4) (N := 3) hx hb hts inG_X4 hown hK hP 0 rfl rfl 1 (by decide) (hts _ tw_1_62) (fun _ h9 => h9) rfl dX4_dropFirst_24 ?_
      refine lv_iload_n hx hb dX4_dropFirst_27 rfl (lv_at hl 1 rfl) ?_
      refine lv_isub hx hb dX4_dropFirst_28 ?_
      refine ck_top (y := n - k) rfl ?_
      refine va_copyi (ty := .int) hx hb (hml.trans hl.1.symm) hown (hts _ tw_2_140) (hts _ tw_acn) (hts _ tw_acs) (hts _ tw_aci) hK hP hD hS 1 1 0 0 rfl rfl rfl rfl rfl c_1 (by decide) (i_nltm (by rw [i0]; have q1 := i_nlt c_1; have q2 := i_lt c_9; have q3 := i_le hn.2; rw [i0] at q1; rw [i512] at q3; rw [i_sub rfl rfl (by omega) (by omega)]; omega)) (by have q1 := i_nlt c_1; have q2 := i_lt c_9; have q3 := i_le hn.2; rw [i0] at q1; rw [i512] at q3; rw [i_clamp, i_clamp, i_sub rfl rfl (by omega) (by omega)]; omega) (by have q1 := i_nlt c_1; have q2 := i_lt c_9; have q3 := i_le hn.2; rw [i0] at q1; rw [i512] at q3; rw [sb_cl0, i_clamp, i_sub rfl rfl (by omega) (by omega)]; omega) (fun _ _ => rfl) (by decide) (Nat.le_of_ble_eq_true rfl) dX4_dropFirst_29 (fun H locs hP hD hS => ?_)
      have hP : va_P D vwCl [(r, .inr (3, [.ref rc, .int n, .int z])), (rc, .inl (cR, 512, .inl (va_cpy f f (k.toNatClampNeg) ((0 : Int32).toNatClampNeg) ((n - k).toNatClampNeg))))] H := hP
      have hD : va_D _ [(r, .inr (3, [.ref rc, .int n, .int z])), (rc, .inl (cR, 512, .inl (va_cpy f f (k.toNatClampNeg) ((0 : Int32).toNatClampNeg) ((n - k).toNatClampNeg))))] := hD
      refine lv_aload_n hx hb dX4_dropFirst_32 rfl (lv_at hl 0 rfl) ?_
      refine lv_dup hx hb dX4_dropFirst_33 rfl ?_
      refine va_get (ci := 3) (v := .int n) (C := RX4) (T := TX4) (N := 3) hx hb hts inG_X4 hown hK hP 0 rfl rfl 1 (by decide) (hts _ tw_1_62) (fun _ h9 => h9) rfl dX4_dropFirst_34 ?_
      refine lv_iload_n hx hb dX4_dropFirst_37 rfl (lv_at hl 1 rfl) ?_
      refine lv_isub hx hb dX4_dropFirst_38 ?_
      refine ck_top (y := n - k) rfl ?_
      refine va_put (ci := 3) (v := .int (n - k)) (ty := .int) (C := RX4) (T := TX4) (N := 3) hx hb hts inG_X4 tyX4 tyX4_ok nmX4 hown hK hP hD hS 0 rfl rfl 1 (by decide) (hts _ tw_1_62) (fun _ h9 => h9) rfl (by decide +kernel) rfl rfl (Nat.le_of_ble_eq_true rfl) dX4_dropFirst_39 (fun H locs hP hD hS => ?_)
      have hP : va_P D vwCl [(r, .inr (3, [.ref rc, .int (n - k), .int z])), (rc, .inl (cR, 512, .inl (va_cpy f f (k.toNatClampNeg) ((0 : Int32).toNatClampNeg) ((n - k).toNatClampNeg))))] H := hP
      have hD : va_D _ [(r, .inr (3, [.ref rc, .int (n - k), .int z])), (rc, .inl (cR, 512, .inl (va_cpy f f (k.toNatClampNeg) ((0 : Int32).toNatClampNeg) ((n - k).toNatClampNeg))))] := hD
      exact ck_vret ⟨va_cpy f f (k.toNatClampNeg) ((0 : Int32).toNatClampNeg) ((n - k).toNatClampNeg), n - k, z⟩ hx hb hr hlocks ⟨rfl, (by unfold r_drop; rw [if_neg c_1, if_pos c_9] <;> (first | rfl))⟩ (hP.sub [0, 1] rfl) (hK.sub [0] rfl) (hD.sub [0, 1] (by decide) rfl) hS (by decide) (by decide) dX4_dropFirst_42
    · exact ck_vret ⟨f, n, z⟩ hx hb hr hlocks ⟨rfl, (by unfold r_drop; rw [if_neg c_1, if_neg c_9] <;> (first | rfl))⟩ (hP.sub [0, 1] rfl) (hK.sub [0] rfl) (hD.sub [0, 1] (by decide) rfl) hS (by decide) (by decide) dX4_dropFirst_12
set_option maxHeartbeats 4000000 in
set_option maxRecDepth 100000 in
theorem c_neg (l : Launch) (D : va_G) (sz : Nat) (r rc : Nat) (cR : ClassId) (f : Nat → Int32) (n z : Int32) (hn : r_ok n) : cM l yX4_negate (.code yX4_negate cX4_negate 1 none) 12 340 0 0 [.ref r] D [(cR, .int)] [(r, .inr (3, [.ref rc, .int n, .int z])), (rc, .inl (cR, 512, .inl f))] sz (S := (Nat → Int32) × Int32 × Int32) (fun v u => v = none ∧ r_neg f n z = (u.1, u.2.1, u.2.2)) (fun u => [(r, .inr (3, [.ref rc, .int u.2.1, .int u.2.2])), (rc, .inl (cR, 512, .inl u.1))]) (fun u => [(cR, .int)]) := by
  refine cM_of (by decide) (Nat.le_of_ble_eq_true rfl) ?_
  intro p e s m below meth c ls hF hsz hP hK hD hE hZ hA hl
  obtain ⟨hx, hb, hr, hml, hown, hlocks, hnm, htb, hts⟩ := hF
  have hown : s.vm.findClass RX4 = some m.cls := hown
  have hl : lv_has ls 1 [(0, .ref r)] := hl
  have hS : va_S (va_A [(r, .inr (3, [.ref rc, .int n, .int z])), (rc, .inl (cR, 512, .inl f))] sz) s.heap s.heap [] := va_S.rf
  refine lv_aload_n hx hb dX4_negate_0 rfl (lv_at hl 0 rfl) ?_
  refine va_get (ci := 3) (v := .int z) (C := RX4) (T := TX4) (N := 3) hx hb hts inG_X4 hown hK hP 0 rfl rfl 2 (by decide) (hts _ tw_1_63) (fun _ h9 => h9) rfl dX4_negate_1 ?_
  refine lv_if_eq (tgt := 8) hx hb dX4_negate_4 (by decide) (fun c_4 => ?_) (fun c_4 => ?_)
  · refine lv_aload_n hx hb dX4_negate_8 rfl (lv_at hl 0 rfl) ?_
    refine va_get (ci := 3) (v := .ref rc) (C := RX4) (T := TX4) (N := 3) hx hb hts inG_X4 hown hK hP 0 rfl rfl 0 (by decide) (hts _ tw_1_61) (fun _ h9 => h9) rfl dX4_negate_9 ?_
    refine lv_iconst (v := 0) hx hb dX4_negate_12 (by decide) ?_
    refine va_iald hx hb hK hP 1 0 rfl rfl (vi (by decide)) dX4_negate_13 ?_
    refine ck_top (y := f ((0 : Int32).toNatClampNeg)) rfl ?_
    refine lv_bipush (v := 6) hx hb dX4_negate_14 (by decide) ?_
    refine lv_icmp_ne (tgt := 27) hx hb dX4_negate_16 (by decide) (fun c_16 => ?_) (fun c_16 => ?_)
    · refine lv_aload_n hx hb dX4_negate_27 rfl (lv_at hl 0 rfl) ?_
      refine lv_bipush (v := 6) hx hb dX4_negate_28 (by decide) ?_
      refine ck_run (wr := []) (va_runV (C := RX4) (As := [.int 6]) (rest := []) ⟨hx, hb, hml, hown, hts⟩ (c_put l D s.heap.size r rc cR f n z 6 hn) (cw_V (n := 1) hts tw_2_149 tw_2_151 tw_s14 tw_1_3 tw_2_152 (by decide +kernel) ⟨by decide, by decide⟩) ⟨pre.blind, va_recv (q := (RX4, TX4, 3)) hK hP (ci := 3) (q0 := 0) rfl rfl, fun U hU hW => ⟨rfl, pre.of (wc := [(r, .inr (3, [.ref rc, .int n, .int z])), (rc, .inl (cR, 512, .inl f))]) (tysc := [(cR, .int)]) (tk := [0]) hP hD hK hS hA hE hZ [0, 1] (by decide) rfl rfl rfl U hU hW⟩⟩ rfl rfl hl.1 rfl (lv_room (Nat.le_of_ble_eq_true rfl)) dX4_negate_30 ⟨by decide, by decide⟩) hP hD hK hS hA [0, 1] [] rfl rfl (by decide) (by decide) (fun v u H locs hw hP hD hK9 hS => ?_)
      obtain ⟨f1_1, n1_2, z1_3⟩ := u
      have hw : v = none ∧ r_put 6 f n z = (f1_1, n1_2, z1_3) := hw
      obtain ⟨rfl, hq_4⟩ := hw
      have hP : va_P D vwCl [(r, .inr (3, [.ref rc, .int n1_2, .int z1_3])), (rc, .inl (cR, 512, .inl f1_1))] H := hP
      have hD : va_D _ [(r, .inr (3, [.ref rc, .int n1_2, .int z1_3])), (rc, .inl (cR, 512, .inl f1_1))] := hD
      refine W.eq (g2 := F0 m 33 ls []) rfl ?_
      exact ck_vret ⟨f1_1, n1_2, z1_3⟩ hx hb hr hlocks ⟨rfl, (by unfold r_neg; rw [if_pos c_4, if_neg c_16] <;> (first | rfl | exact hq_4))⟩ (hP.sub [0, 1] rfl) (hK.sub [0] rfl) (hD.sub [0, 1] (by decide) rfl) hS (by decide) (by decide) dX4_negate_33
    · refine lv_aload_n hx hb dX4_negate_19 rfl (lv_at hl 0 rfl) ?_
      refine lv_iconst (v := 1) hx hb dX4_negate_20 (by decide) ?_
      refine ck_run (wr := []) (va_runV (C := RX4) (As := [.int 1]) (rest := []) ⟨hx, hb, hml, hown, hts⟩ (c_drop l D s.heap.size r rc cR f n z 1 hn) (cw_V (n := 1) hts tw_2_145 tw_2_147 tw_s13 tw_1_3 tw_2_148 (by decide +kernel) ⟨by decide, by decide⟩) ⟨pre.blind, va_recv (q := (RX4, TX4, 3)) hK hP (ci := 3) (q0 := 0) rfl rfl, fun U hU hW => ⟨rfl, pre.of (wc := [(r, .inr (3, [.ref rc, .int n, .int z])), (rc, .inl (cR, 512, .inl f))]) (tysc := [(cR, .int)]) (tk := [0]) hP hD hK hS hA hE hZ [0, 1] (by decide) rfl rfl rfl U hU hW⟩⟩ rfl rfl hl.1 rfl (lv_room (Nat.le_of_ble_eq_true rfl)) dX4_negate_21 ⟨by decide, by decide⟩) hP hD hK hS hA [0, 1] [] rfl rfl (by decide) (by decide) (fun v u H locs hw hP hD hK9 hS => ?_)
      obtain ⟨f1_5, n1_6, z1_7⟩ := u
      have hw : v = none ∧ r_drop 1 f n z = (f1_5, n1_6, z1_7) := hw
      obtain ⟨rfl, hq_8⟩ := hw
      have hP : va_P D vwCl [(r, .inr (3, [.ref rc, .int n1_6, .int z1_7])), (rc, .inl (cR, 512, .inl f1_5))] H := hP
      have hD : va_D _ [(r, .inr (3, [.ref rc, .int n1_6, .int z1_7])), (rc, .inl (cR, 512, .inl f1_5))] := hD
      refine W.eq (g2 := F0 m 24 ls []) rfl ?_
      refine lv_goto (tgt := 33) hx hb dX4_negate_24 (by decide) ?_
      exact ck_vret ⟨f1_5, n1_6, z1_7⟩ hx hb hr hlocks ⟨rfl, (by unfold r_neg; rw [if_pos c_4, if_pos c_16] <;> (first | rfl | exact hq_8))⟩ (hP.sub [0, 1] rfl) (hK.sub [0] rfl) (hD.sub [0, 1] (by decide) rfl) hS (by decide) (by decide) dX4_negate_33
  · exact ck_vret ⟨f, n, z⟩ hx hb hr hlocks ⟨rfl, (by unfold r_neg; rw [if_neg c_4] <;> (first | rfl))⟩ (hP.sub [0, 1] rfl) (hK.sub [0] rfl) (hD.sub [0, 1] (by decide) rfl) hS (by decide) (by decide) dX4_negate_7
set_option maxHeartbeats 4000000 in
set_option maxRecDepth 100000 in
theorem c_codeAt (l : Launch) (D : va_G) (sz : Nat) (r rc : Nat) (cR : ClassId) (f : Nat → Int32) (n z : Int32) (i : Int32) : cM l yX4_codeAt (.code yX4_codeAt cX4_codeAt 2 (some .int)) 10 270 0 0 [.ref r, .int i] D [(cR, .int)] [(r, .inr (3, [.ref rc, .int n, .int z])), (rc, .inl (cR, 512, .inl f))] sz (S := Unit) (fun v _ => v = some (.int (r_codeAt i f n))) (fun _ => [(r, .inr (3, [.ref rc, .int n, .int z])), (rc, .inl (cR, 512, .inl f))]) (fun _ => [(cR, .int)]) := by
  refine cM_of (by decide) (Nat.le_of_ble_eq_true rfl) ?_
  intro p e s m below meth c ls hF hsz hP hK hD hE hZ hA hl
  obtain ⟨hx, hb, hr, hml, hown, hlocks, hnm, htb, hts⟩ := hF
  have hown : s.vm.findClass RX4 = some m.cls := hown
  have hl : lv_has ls 2 [(0, .ref r), (1, .int i)] := hl
  have hS : va_S (va_A [(r, .inr (3, [.ref rc, .int n, .int z])), (rc, .inl (cR, 512, .inl f))] sz) s.heap s.heap [] := va_S.rf
  refine lv_iload_n hx hb dX4_codeAt_0 rfl (lv_at hl 1 rfl) ?_
  refine lv_if_lt (tgt := 28) hx hb dX4_codeAt_1 (by decide) (fun c_1 => ?_) (fun c_1 => ?_)
  · refine lv_iconst (v := (-1)) hx hb dX4_codeAt_28 (by decide) ?_
    exact ck_iret () hx hb hr rfl hlocks (congrArg (fun z9 => some (Value.int z9)) (show ((-1) : Int32) = r_codeAt i f n from (by unfold r_codeAt; rw [if_pos c_1]))) (hP.sub [0, 1] rfl) (hK.sub [0] rfl) (hD.sub [0, 1] (by decide) rfl) hS (by decide) (by decide) dX4_codeAt_29
  · refine lv_iload_n hx hb dX4_codeAt_4 rfl (lv_at hl 1 rfl) ?_
    refine lv_aload_n hx hb dX4_codeAt_5 rfl (lv_at hl 0 rfl) ?_
    refine va_get (ci := 3) (v := .int n) (C := RX4) (T := TX4) (N := 3) hx hb hts inG_X4 hown hK hP 0 rfl rfl 1 (by decide) (hts _ tw_1_62) (fun _ h9 => h9) rfl dX4_codeAt_6 ?_
    refine lv_icmp_ge (tgt := 28) hx hb dX4_codeAt_9 (by decide) (fun c_9 => ?_) (fun c_9 => ?_)
    · refine lv_iconst (v := (-1)) hx hb dX4_codeAt_28 (by decide) ?_
      exact ck_iret () hx hb hr rfl hlocks (congrArg (fun z9 => some (Value.int z9)) (show ((-1) : Int32) = r_codeAt i f n from (by unfold r_codeAt; rw [if_neg c_1, if_pos c_9]))) (hP.sub [0, 1] rfl) (hK.sub [0] rfl) (hD.sub [0, 1] (by decide) rfl) hS (by decide) (by decide) dX4_codeAt_29
    · refine lv_iload_n hx hb dX4_codeAt_12 rfl (lv_at hl 1 rfl) ?_
      refine lv_sipush (v := 512) hx hb dX4_codeAt_13 (by decide) ?_
      refine lv_icmp_ge (tgt := 28) hx hb dX4_codeAt_16 (by decide) (fun c_16 => ?_) (fun c_16 => ?_)
      · refine lv_iconst (v := (-1)) hx hb dX4_codeAt_28 (by decide) ?_
        exact ck_iret () hx hb hr rfl hlocks (congrArg (fun z9 => some (Value.int z9)) (show ((-1) : Int32) = r_codeAt i f n from (by unfold r_codeAt; rw [if_neg c_1, if_neg c_9, if_pos c_16]))) (hP.sub [0, 1] rfl) (hK.sub [0] rfl) (hD.sub [0, 1] (by decide) rfl) hS (by decide) (by decide) dX4_codeAt_29
      · refine lv_aload_n hx hb dX4_codeAt_19 rfl (lv_at hl 0 rfl) ?_
        refine va_get (ci := 3) (v := .ref rc) (C := RX4) (T := TX4) (N := 3) hx hb hts inG_X4 hown hK hP 0 rfl rfl 0 (by decide) (hts _ tw_1_61) (fun _ h9 => h9) rfl dX4_codeAt_20 ?_
        refine lv_iload_n hx hb dX4_codeAt_23 rfl (lv_at hl 1 rfl) ?_
        refine va_iald hx hb hK hP 1 0 rfl rfl (vp_in_iff.mpr ⟨by have q := i_nlt c_1; rw [i0] at q; exact q, by have q := i_nle c_16; rw [i512] at q; exact q⟩) dX4_codeAt_24 ?_
        refine ck_top (y := f (i.toNatClampNeg)) rfl ?_
        refine lv_goto (tgt := 29) hx hb dX4_codeAt_25 (by decide) ?_
        exact ck_iret () hx hb hr rfl hlocks (congrArg (fun z9 => some (Value.int z9)) (show (f (i.toNatClampNeg) : Int32) = r_codeAt i f n from (by unfold r_codeAt; rw [if_neg c_1, if_neg c_9, if_neg c_16]))) (hP.sub [0, 1] rfl) (hK.sub [0] rfl) (hD.sub [0, 1] (by decide) rfl) hS (by decide) (by decide) dX4_codeAt_29
set_option maxHeartbeats 4000000 in
set_option maxRecDepth 100000 in
theorem c_isAnd (l : Launch) (D : va_G) (sz : Nat) (r rc : Nat) (cR : ClassId) (f : Nat → Int32) (n z : Int32) : cM l yX4_isAnd (.code yX4_isAnd cX4_isAnd 1 (some .boolean)) 12 340 0 0 [.ref r] D [(cR, .int)] [(r, .inr (3, [.ref rc, .int n, .int z])), (rc, .inl (cR, 512, .inl f))] sz (S := Unit) (fun v _ => v = some (.int (r_isAnd f))) (fun _ => [(r, .inr (3, [.ref rc, .int n, .int z])), (rc, .inl (cR, 512, .inl f))]) (fun _ => [(cR, .int)]) := by
  refine cM_of (by decide) (Nat.le_of_ble_eq_true rfl) ?_
  intro p e s m below meth c ls hF hsz hP hK hD hE hZ hA hl
  obtain ⟨hx, hb, hr, hml, hown, hlocks, hnm, htb, hts⟩ := hF
  have hown : s.vm.findClass RX4 = some m.cls := hown
  have hl : lv_has ls 1 [(0, .ref r)] := hl
  have hS : va_S (va_A [(r, .inr (3, [.ref rc, .int n, .int z])), (rc, .inl (cR, 512, .inl f))] sz) s.heap s.heap [] := va_S.rf
  refine lv_aload_n hx hb dX4_isAnd_0 rfl (lv_at hl 0 rfl) ?_
  refine va_get (ci := 3) (v := .ref rc) (C := RX4) (T := TX4) (N := 3) hx hb hts inG_X4 hown hK hP 0 rfl rfl 0 (by decide) (hts _ tw_1_61) (fun _ h9 => h9) rfl dX4_isAnd_1 ?_
  refine lv_iconst (v := 0) hx hb dX4_isAnd_4 (by decide) ?_
  refine va_iald hx hb hK hP 1 0 rfl rfl (vi (by decide)) dX4_isAnd_5 ?_
  refine ck_top (y := f ((0 : Int32).toNatClampNeg)) rfl ?_
  refine ck_run (wr := [(r, .inr (3, [.ref rc, .int n, .int z])), (rc, .inl (cR, 512, .inl f))]) (va_runS (As := [.int (f ((0 : Int32).toNatClampNeg))]) (rest := []) ⟨hx, hb, hml, hown, hts⟩ (c_kind l D s.heap.size (f ((0 : Int32).toNatClampNeg))) (cw_S (n := 1) hts tw_2_177 tw_1_101 tw_1_8 tw_1_102 (by decide +kernel) ⟨by decide, by decide⟩) ⟨pre.blind, fun U hU hW => ⟨rfl, pre.of (wc := []) (tysc := []) (tk := []) hP hD hK hS hA hE hZ [] (by decide) rfl rfl rfl U hU hW⟩⟩ rfl rfl hl.1 rfl (lv_room (Nat.le_of_ble_eq_true rfl)) dX4_isAnd_6 ⟨by decide, by decide⟩) hP hD hK hS hA [] [0, 1] rfl rfl (by decide) (by decide) (fun v u H locs hw hP hD hK9 hS => ?_)
  have hw : v = some (.int ((f ((0 : Int32).toNatClampNeg)) &&& 15)) := hw
  subst hw
  have hP : va_P D vwCl [(r, .inr (3, [.ref rc, .int n, .int z])), (rc, .inl (cR, 512, .inl f))] H := hP
  have hD : va_D _ [(r, .inr (3, [.ref rc, .int n, .int z])), (rc, .inl (cR, 512, .inl f))] := hD
  refine W.eq (g2 := F0 m 9 ls [.int ((f ((0 : Int32).toNatClampNeg)) &&& 15)]) rfl ?_
  refine lv_bipush (v := 7) hx hb dX4_isAnd_9 (by decide) ?_
  refine lv_icmp_ne (tgt := 18) hx hb dX4_isAnd_11 (by decide) (fun c_11 => ?_) (fun c_11 => ?_)
  · refine lv_iconst (v := 0) hx hb dX4_isAnd_18 (by decide) ?_
    exact ck_iret () hx hb hr rfl hlocks (congrArg (fun z9 => some (Value.int z9)) (show (0 : Int32) = r_isAnd f from (by unfold r_isAnd; rw [if_neg c_11]))) (hP.sub [0, 1] rfl) (hK.sub [0] rfl) (hD.sub [0, 1] (by decide) rfl) hS (by decide) (by decide) dX4_isAnd_19
  · refine lv_iconst (v := 1) hx hb dX4_isAnd_14 (by decide) ?_
    refine lv_goto (tgt := 19) hx hb dX4_isAnd_15 (by decide) ?_
    exact ck_iret () hx hb hr rfl hlocks (congrArg (fun z9 => some (Value.int z9)) (show (1 : Int32) = r_isAnd f from (by unfold r_isAnd; rw [if_pos c_11]))) (hP.sub [0, 1] rfl) (hK.sub [0] rfl) (hD.sub [0, 1] (by decide) rfl) hS (by decide) (by decide) dX4_isAnd_19
set_option maxHeartbeats 4000000 in
set_option maxRecDepth 100000 in
theorem c_isTrue (l : Launch) (D : va_G) (sz : Nat) (r rc : Nat) (cR : ClassId) (f : Nat → Int32) (n z : Int32) : cM l yX4_isTrue (.code yX4_isTrue cX4_isTrue 1 (some .boolean)) 10 270 0 0 [.ref r] D [(cR, .int)] [(r, .inr (3, [.ref rc, .int n, .int z])), (rc, .inl (cR, 512, .inl f))] sz (S := Unit) (fun v _ => v = some (.int (r_isTrue f z))) (fun _ => [(r, .inr (3, [.ref rc, .int n, .int z])), (rc, .inl (cR, 512, .inl f))]) (fun _ => [(cR, .int)]) := by
  refine cM_of (by decide) (Nat.le_of_ble_eq_true rfl) ?_
  intro p e s m below meth c ls hF hsz hP hK hD hE hZ hA hl
  obtain ⟨hx, hb, hr, hml, hown, hlocks, hnm, htb, hts⟩ := hF
  have hown : s.vm.findClass RX4 = some m.cls := hown
  have hl : lv_has ls 1 [(0, .ref r)] := hl
  have hS : va_S (va_A [(r, .inr (3, [.ref rc, .int n, .int z])), (rc, .inl (cR, 512, .inl f))] sz) s.heap s.heap [] := va_S.rf
  refine lv_aload_n hx hb dX4_isTrue_0 rfl (lv_at hl 0 rfl) ?_
  refine va_get (ci := 3) (v := .int z) (C := RX4) (T := TX4) (N := 3) hx hb hts inG_X4 hown hK hP 0 rfl rfl 2 (by decide) (hts _ tw_1_63) (fun _ h9 => h9) rfl dX4_isTrue_1 ?_
  refine lv_if_ne (tgt := 21) hx hb dX4_isTrue_4 (by decide) (fun c_4 => ?_) (fun c_4 => ?_)
  · refine lv_iconst (v := 0) hx hb dX4_isTrue_21 (by decide) ?_
    exact ck_iret () hx hb hr rfl hlocks (congrArg (fun z9 => some (Value.int z9)) (show (0 : Int32) = r_isTrue f z from (by unfold r_isTrue; rw [if_neg c_4]))) (hP.sub [0, 1] rfl) (hK.sub [0] rfl) (hD.sub [0, 1] (by decide) rfl) hS (by decide) (by decide) dX4_isTrue_22
  · refine lv_aload_n hx hb dX4_isTrue_7 rfl (lv_at hl 0 rfl) ?_
    refine va_get (ci := 3) (v := .ref rc) (C := RX4) (T := TX4) (N := 3) hx hb hts inG_X4 hown hK hP 0 rfl rfl 0 (by decide) (hts _ tw_1_61) (fun _ h9 => h9) rfl dX4_isTrue_8 ?_
    refine lv_iconst (v := 0) hx hb dX4_isTrue_11 (by decide) ?_
    refine va_iald hx hb hK hP 1 0 rfl rfl (vi (by decide)) dX4_isTrue_12 ?_
    refine ck_top (y := f ((0 : Int32).toNatClampNeg)) rfl ?_
    refine lv_iconst (v := 3) hx hb dX4_isTrue_13 (by decide) ?_
    refine lv_icmp_ne (tgt := 21) hx hb dX4_isTrue_14 (by decide) (fun c_14 => ?_) (fun c_14 => ?_)
    · refine lv_iconst (v := 0) hx hb dX4_isTrue_21 (by decide) ?_
      exact ck_iret () hx hb hr rfl hlocks (congrArg (fun z9 => some (Value.int z9)) (show (0 : Int32) = r_isTrue f z from (by unfold r_isTrue; rw [if_pos c_4, if_neg c_14]))) (hP.sub [0, 1] rfl) (hK.sub [0] rfl) (hD.sub [0, 1] (by decide) rfl) hS (by decide) (by decide) dX4_isTrue_22
    · refine lv_iconst (v := 1) hx hb dX4_isTrue_17 (by decide) ?_
      refine lv_goto (tgt := 22) hx hb dX4_isTrue_18 (by decide) ?_
      exact ck_iret () hx hb hr rfl hlocks (congrArg (fun z9 => some (Value.int z9)) (show (1 : Int32) = r_isTrue f z from (by unfold r_isTrue; rw [if_pos c_4, if_pos c_14]))) (hP.sub [0, 1] rfl) (hK.sub [0] rfl) (hD.sub [0, 1] (by decide) rfl) hS (by decide) (by decide) dX4_isTrue_22
set_option maxHeartbeats 4000000 in
set_option maxRecDepth 100000 in
theorem c_isNT (l : Launch) (D : va_G) (sz : Nat) (r rc : Nat) (cR : ClassId) (f : Nat → Int32) (n z : Int32) : cM l yX4_isNotTrue (.code yX4_isNotTrue cX4_isNotTrue 1 (some .boolean)) 10 270 0 0 [.ref r] D [(cR, .int)] [(r, .inr (3, [.ref rc, .int n, .int z])), (rc, .inl (cR, 512, .inl f))] sz (S := Unit) (fun v _ => v = some (.int (r_isNT f z))) (fun _ => [(r, .inr (3, [.ref rc, .int n, .int z])), (rc, .inl (cR, 512, .inl f))]) (fun _ => [(cR, .int)]) := by
  refine cM_of (by decide) (Nat.le_of_ble_eq_true rfl) ?_
  intro p e s m below meth c ls hF hsz hP hK hD hE hZ hA hl
  obtain ⟨hx, hb, hr, hml, hown, hlocks, hnm, htb, hts⟩ := hF
  have hown : s.vm.findClass RX4 = some m.cls := hown
  have hl : lv_has ls 1 [(0, .ref r)] := hl
  have hS : va_S (va_A [(r, .inr (3, [.ref rc, .int n, .int z])), (rc, .inl (cR, 512, .inl f))] sz) s.heap s.heap [] := va_S.rf
  refine lv_aload_n hx hb dX4_isNotTrue_0 rfl (lv_at hl 0 rfl) ?_
  refine va_get (ci := 3) (v := .int z) (C := RX4) (T := TX4) (N := 3) hx hb hts inG_X4 hown hK hP 0 rfl rfl 2 (by decide) (hts _ tw_1_63) (fun _ h9 => h9) rfl dX4_isNotTrue_1 ?_
  refine lv_if_ne (tgt := 32) hx hb dX4_isNotTrue_4 (by decide) (fun c_4 => ?_) (fun c_4 => ?_)
  · refine lv_iconst (v := 0) hx hb dX4_isNotTrue_32 (by decide) ?_
    exact ck_iret () hx hb hr rfl hlocks (congrArg (fun z9 => some (Value.int z9)) (show (0 : Int32) = r_isNT f z from (by unfold r_isNT; rw [if_neg c_4]))) (hP.sub [0, 1] rfl) (hK.sub [0] rfl) (hD.sub [0, 1] (by decide) rfl) hS (by decide) (by decide) dX4_isNotTrue_33
  · refine lv_aload_n hx hb dX4_isNotTrue_7 rfl (lv_at hl 0 rfl) ?_
    refine va_get (ci := 3) (v := .ref rc) (C := RX4) (T := TX4) (N := 3) hx hb hts inG_X4 hown hK hP 0 rfl rfl 0 (by decide) (hts _ tw_1_61) (fun _ h9 => h9) rfl dX4_isNotTrue_8 ?_
    refine lv_iconst (v := 0) hx hb dX4_isNotTrue_11 (by decide) ?_
    refine va_iald hx hb hK hP 1 0 rfl rfl (vi (by decide)) dX4_isNotTrue_12 ?_
    refine ck_top (y := f ((0 : Int32).toNatClampNeg)) rfl ?_
    refine lv_bipush (v := 6) hx hb dX4_isNotTrue_13 (by decide) ?_
    refine lv_icmp_ne (tgt := 32) hx hb dX4_isNotTrue_15 (by decide) (fun c_15 => ?_) (fun c_15 => ?_)
    · refine lv_iconst (v := 0) hx hb dX4_isNotTrue_32 (by decide) ?_
      exact ck_iret () hx hb hr rfl hlocks (congrArg (fun z9 => some (Value.int z9)) (show (0 : Int32) = r_isNT f z from (by unfold r_isNT; rw [if_pos c_4, if_neg c_15]))) (hP.sub [0, 1] rfl) (hK.sub [0] rfl) (hD.sub [0, 1] (by decide) rfl) hS (by decide) (by decide) dX4_isNotTrue_33
    · refine lv_aload_n hx hb dX4_isNotTrue_18 rfl (lv_at hl 0 rfl) ?_
      refine va_get (ci := 3) (v := .ref rc) (C := RX4) (T := TX4) (N := 3) hx hb hts inG_X4 hown hK hP 0 rfl rfl 0 (by decide) (hts _ tw_1_61) (fun _ h9 => h9) rfl dX4_isNotTrue_19 ?_
      refine lv_iconst (v := 1) hx hb dX4_isNotTrue_22 (by decide) ?_
      refine va_iald hx hb hK hP 1 0 rfl rfl (vi (by decide)) dX4_isNotTrue_23 ?_
      refine ck_top (y := f ((1 : Int32).toNatClampNeg)) rfl ?_
      refine lv_iconst (v := 3) hx hb dX4_isNotTrue_24 (by decide) ?_
      refine lv_icmp_ne (tgt := 32) hx hb dX4_isNotTrue_25 (by decide) (fun c_25 => ?_) (fun c_25 => ?_)
      · refine lv_iconst (v := 0) hx hb dX4_isNotTrue_32 (by decide) ?_
        exact ck_iret () hx hb hr rfl hlocks (congrArg (fun z9 => some (Value.int z9)) (show (0 : Int32) = r_isNT f z from (by unfold r_isNT; rw [if_pos c_4, if_pos c_15, if_neg c_25]))) (hP.sub [0, 1] rfl) (hK.sub [0] rfl) (hD.sub [0, 1] (by decide) rfl) hS (by decide) (by decide) dX4_isNotTrue_33
      · refine lv_iconst (v := 1) hx hb dX4_isNotTrue_28 (by decide) ?_
        refine lv_goto (tgt := 33) hx hb dX4_isNotTrue_29 (by decide) ?_
        exact ck_iret () hx hb hr rfl hlocks (congrArg (fun z9 => some (Value.int z9)) (show (1 : Int32) = r_isNT f z from (by unfold r_isNT; rw [if_pos c_4, if_pos c_15, if_pos c_25]))) (hP.sub [0, 1] rfl) (hK.sub [0] rfl) (hD.sub [0, 1] (by decide) rfl) hS (by decide) (by decide) dX4_isNotTrue_33
set_option maxHeartbeats 4000000 in
set_option maxRecDepth 100000 in
theorem c_parts (l : Launch) (D : va_G) (sz : Nat) (a : Int32) : cM l yX4_partsIn (.code yX4_partsIn cX4_partsIn 1 (some .int)) 12 340 0 0 [.int a] D [] [] sz (S := Unit) (fun v _ => v = some (.int (r_parts a))) (fun _ => []) (fun _ => []) := by
  refine cM_of (by decide) (Nat.le_of_ble_eq_true rfl) ?_
  intro p e s m below meth c ls hF hsz hP hK hD hE hZ hA hl
  obtain ⟨hx, hb, hr, hml, hown, hlocks, hnm, htb, hts⟩ := hF
  have hown : s.vm.findClass RX4 = some m.cls := hown
  have hl : lv_has ls 1 [(0, .int a)] := hl
  have hS : va_S (va_A [] sz) s.heap s.heap [] := va_S.rf
  refine lv_iload_n hx hb dX4_partsIn_0 rfl (lv_at hl 0 rfl) ?_
  refine ck_run (wr := []) (va_runS (As := [.int a]) (rest := []) ⟨hx, hb, hml, hown, hts⟩ (c_kind l D s.heap.size a) (cw_S (n := 1) hts tw_2_177 tw_1_101 tw_1_8 tw_1_102 (by decide +kernel) ⟨by decide, by decide⟩) ⟨pre.blind, fun U hU hW => ⟨rfl, pre.of (wc := []) (tysc := []) (tk := []) hP hD hK hS hA hE hZ [] (by decide) rfl rfl rfl U hU hW⟩⟩ rfl rfl hl.1 rfl (lv_room (Nat.le_of_ble_eq_true rfl)) dX4_partsIn_1 ⟨by decide, by decide⟩) hP hD hK hS hA [] [] rfl rfl (by decide) (by decide) (fun v u H locs hw hP hD hK9 hS => ?_)
  have hw : v = some (.int (a &&& 15)) := hw
  subst hw
  have hP : va_P D vwCl [] H := hP
  have hD : va_D _ [] := hD
  refine W.eq (g2 := F0 m 4 ls [.int (a &&& 15)]) rfl ?_
  refine lv_bipush (v := 7) hx hb dX4_partsIn_4 (by decide) ?_
  refine lv_icmp_ne (tgt := 16) hx hb dX4_partsIn_6 (by decide) (fun c_6 => ?_) (fun c_6 => ?_)
  · refine lv_iconst (v := 1) hx hb dX4_partsIn_16 (by decide) ?_
    exact ck_iret () hx hb hr rfl hlocks (congrArg (fun z9 => some (Value.int z9)) (show (1 : Int32) = r_parts a from (by unfold r_parts; rw [if_neg c_6]))) (hP.sub [] rfl) (hK.sub [] rfl) (hD.sub [] (by decide) rfl) hS (by decide) (by decide) dX4_partsIn_17
  · refine lv_iload_n hx hb dX4_partsIn_9 rfl (lv_at hl 0 rfl) ?_
    refine ck_run (wr := []) (va_runS (As := [.int a]) (rest := []) ⟨hx, hb, hml, hown, hts⟩ (c_value l D H.size a) (cw_S (n := 1) hts tw_2_185 tw_1_98 tw_1_8 tw_1_99 (by decide +kernel) ⟨by decide, by decide⟩) ⟨pre.blind, fun U hU hW => ⟨rfl, pre.of (wc := []) (tysc := []) (tk := []) hP hD hK hS hA hE hZ [] (by decide) rfl rfl rfl U hU hW⟩⟩ rfl rfl hl.1 rfl (lv_room (Nat.le_of_ble_eq_true rfl)) dX4_partsIn_10 ⟨by decide, by decide⟩) hP hD hK hS hA [] [] rfl rfl (by decide) (by decide) (fun v u H locs hw hP hD hK9 hS => ?_)
    have hw : v = some (.int (a >>> ((4 : Int32) &&& 31))) := hw
    subst hw
    have hP : va_P D vwCl [] H := hP
    have hD : va_D _ [] := hD
    refine W.eq (g2 := F0 m 13 ls [.int (a >>> ((4 : Int32) &&& 31))]) rfl ?_
    refine lv_goto (tgt := 17) hx hb dX4_partsIn_13 (by decide) ?_
    exact ck_iret () hx hb hr rfl hlocks (congrArg (fun z9 => some (Value.int z9)) (show (a >>> ((4 : Int32) &&& 31) : Int32) = r_parts a from (by unfold r_parts; rw [if_pos c_6]))) (hP.sub [] rfl) (hK.sub [] rfl) (hD.sub [] (by decide) rfl) hS (by decide) (by decide) dX4_partsIn_17
set_option maxHeartbeats 4000000 in
set_option maxRecDepth 100000 in
theorem c_tooLarge (l : Launch) (D : va_G) (sz : Nat) (r rc : Nat) (cR : ClassId) (f : Nat → Int32) (n z : Int32) : cM l yX4_isTooLarge (.code yX4_isTooLarge cX4_isTooLarge 1 (some .boolean)) 10 270 0 0 [.ref r] D [(cR, .int)] [(r, .inr (3, [.ref rc, .int n, .int z])), (rc, .inl (cR, 512, .inl f))] sz (S := Unit) (fun v _ => v = some (.int (r_tooLarge n z))) (fun _ => [(r, .inr (3, [.ref rc, .int n, .int z])), (rc, .inl (cR, 512, .inl f))]) (fun _ => [(cR, .int)]) := by
  refine cM_of (by decide) (Nat.le_of_ble_eq_true rfl) ?_
  intro p e s m below meth c ls hF hsz hP hK hD hE hZ hA hl
  obtain ⟨hx, hb, hr, hml, hown, hlocks, hnm, htb, hts⟩ := hF
  have hown : s.vm.findClass RX4 = some m.cls := hown
  have hl : lv_has ls 1 [(0, .ref r)] := hl
  have hS : va_S (va_A [(r, .inr (3, [.ref rc, .int n, .int z])), (rc, .inl (cR, 512, .inl f))] sz) s.heap s.heap [] := va_S.rf
  refine lv_aload_n hx hb dX4_isTooLarge_0 rfl (lv_at hl 0 rfl) ?_
  refine va_get (ci := 3) (v := .int z) (C := RX4) (T := TX4) (N := 3) hx hb hts inG_X4 hown hK hP 0 rfl rfl 2 (by decide) (hts _ tw_1_63) (fun _ h9 => h9) rfl dX4_isTooLarge_1 ?_
  refine lv_if_ne (tgt := 16) hx hb dX4_isTooLarge_4 (by decide) (fun c_4 => ?_) (fun c_4 => ?_)
  · refine lv_iconst (v := 1) hx hb dX4_isTooLarge_16 (by decide) ?_
    refine lv_goto (tgt := 21) hx hb dX4_isTooLarge_17 (by decide) ?_
    exact ck_iret () hx hb hr rfl hlocks (congrArg (fun z9 => some (Value.int z9)) (show (1 : Int32) = r_tooLarge n z from (by unfold r_tooLarge; rw [if_neg c_4]))) (hP.sub [0, 1] rfl) (hK.sub [0] rfl) (hD.sub [0, 1] (by decide) rfl) hS (by decide) (by decide) dX4_isTooLarge_21
  · refine lv_aload_n hx hb dX4_isTooLarge_7 rfl (lv_at hl 0 rfl) ?_
    refine va_get (ci := 3) (v := .int n) (C := RX4) (T := TX4) (N := 3) hx hb hts inG_X4 hown hK hP 0 rfl rfl 1 (by decide) (hts _ tw_1_62) (fun _ h9 => h9) rfl dX4_isTooLarge_8 ?_
    refine lv_bipush (v := 100) hx hb dX4_isTooLarge_11 (by decide) ?_
    refine lv_icmp_le (tgt := 20) hx hb dX4_isTooLarge_13 (by decide) (fun c_13 => ?_) (fun c_13 => ?_)
    · refine lv_iconst (v := 0) hx hb dX4_isTooLarge_20 (by decide) ?_
      exact ck_iret () hx hb hr rfl hlocks (congrArg (fun z9 => some (Value.int z9)) (show (0 : Int32) = r_tooLarge n z from (by unfold r_tooLarge; rw [if_pos c_4, if_pos c_13]))) (hP.sub [0, 1] rfl) (hK.sub [0] rfl) (hD.sub [0, 1] (by decide) rfl) hS (by decide) (by decide) dX4_isTooLarge_21
    · refine lv_iconst (v := 1) hx hb dX4_isTooLarge_16 (by decide) ?_
      refine lv_goto (tgt := 21) hx hb dX4_isTooLarge_17 (by decide) ?_
      exact ck_iret () hx hb hr rfl hlocks (congrArg (fun z9 => some (Value.int z9)) (show (1 : Int32) = r_tooLarge n z from (by unfold r_tooLarge; rw [if_pos c_4, if_neg c_13]))) (hP.sub [0, 1] rfl) (hK.sub [0] rfl) (hD.sub [0, 1] (by decide) rfl) hS (by decide) (by decide) dX4_isTooLarge_21
