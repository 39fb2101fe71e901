set_option maxHeartbeats 4000000 in
set_option maxRecDepth 100000 in
theorem c_of (l : Launch) (D : va_G) (sz : Nat) (a b : Int32) : cM l yX1_of (.code yX1_of cX1_of 2 (some .int)) 10 270 0 0 [.int a, .int b] D [] [] sz (S := Unit) (fun v _ => v = some (.int (b <<< ((4 : Int32) &&& 31) ||| a))) (fun _ => []) (fun _ => []) := by
  refine cM_of (by decide) (Nat.le_of_ble_eq_true rfl) ?_
  intro p e s m below meth c ls hF hsz hP hK hD hE hZ hA hl
  obtain ⟨hx, hb, hr, hml, hown, hlocks, hnm, htb, hts⟩ := hF
  have hown : s.vm.findClass RX1 = some m.cls := hown
  have hl : lv_has ls 2 [(0, .int a), (1, .int b)] := hl
  have hS : va_S (va_A [] sz) s.heap s.heap [] := va_S.rf
  refine lv_iload_n hx hb dX1_of_0 rfl (lv_at hl 1 rfl) ?_
  refine lv_iconst (v := 4) hx hb dX1_of_1 (by decide) ?_
  refine lv_ishl hx hb dX1_of_2 ?_
  refine ck_top (y := b <<< ((4 : Int32) &&& 31)) rfl ?_
  refine lv_iload_n hx hb dX1_of_3 rfl (lv_at hl 0 rfl) ?_
  refine lv_ior hx hb dX1_of_4 ?_
  refine ck_top (y := b <<< ((4 : Int32) &&& 31) ||| a) rfl ?_
  exact ck_iret () hx hb hr rfl hlocks rfl (hP.sub [] rfl) (hK.sub [] rfl) (hD.sub [] (by decide) rfl) hS (by decide) (by decide) dX1_of_5
set_option maxHeartbeats 4000000 in
set_option maxRecDepth 100000 in
theorem c_kind (l : Launch) (D : va_G) (sz : Nat) (a : Int32) : cM l yX1_kind (.code yX1_kind cX1_kind 1 (some .int)) 10 270 0 0 [.int a] D [] [] sz (S := Unit) (fun v _ => v = some (.int (a &&& 15))) (fun _ => []) (fun _ => []) := by
  refine cM_of (by decide) (Nat.le_of_ble_eq_true rfl) ?_
  intro p e s m below meth c ls hF hsz hP hK hD hE hZ hA hl
  obtain ⟨hx, hb, hr, hml, hown, hlocks, hnm, htb, hts⟩ := hF
  have hown : s.vm.findClass RX1 = some m.cls := hown
  have hl : lv_has ls 1 [(0, .int a)] := hl
  have hS : va_S (va_A [] sz) s.heap s.heap [] := va_S.rf
  refine lv_iload_n hx hb dX1_kind_0 rfl (lv_at hl 0 rfl) ?_
  refine lv_bipush (v := 15) hx hb dX1_kind_1 (by decide) ?_
  refine lv_iand hx hb dX1_kind_3 ?_
  refine ck_top (y := a &&& 15) rfl ?_
  exact ck_iret () hx hb hr rfl hlocks rfl (hP.sub [] rfl) (hK.sub [] rfl) (hD.sub [] (by decide) rfl) hS (by decide) (by decide) dX1_kind_4
set_option maxHeartbeats 4000000 in
set_option maxRecDepth 100000 in
theorem c_value (l : Launch) (D : va_G) (sz : Nat) (a : Int32) : cM l yX1_value (.code yX1_value cX1_value 1 (some .int)) 10 270 0 0 [.int a] D [] [] sz (S := Unit) (fun v _ => v = some (.int (a >>> ((4 : Int32) &&& 31)))) (fun _ => []) (fun _ => []) := by
  refine cM_of (by decide) (Nat.le_of_ble_eq_true rfl) ?_
  intro p e s m below meth c ls hF hsz hP hK hD hE hZ hA hl
  obtain ⟨hx, hb, hr, hml, hown, hlocks, hnm, htb, hts⟩ := hF
  have hown : s.vm.findClass RX1 = some m.cls := hown
  have hl : lv_has ls 1 [(0, .int a)] := hl
  have hS : va_S (va_A [] sz) s.heap s.heap [] := va_S.rf
  refine lv_iload_n hx hb dX1_value_0 rfl (lv_at hl 0 rfl) ?_
  refine lv_iconst (v := 4) hx hb dX1_value_1 (by decide) ?_
  refine lv_ishr hx hb dX1_value_2 ?_
  refine ck_top (y := a >>> ((4 : Int32) &&& 31)) rfl ?_
  exact ck_iret () hx hb hr rfl hlocks rfl (hP.sub [] rfl) (hK.sub [] rfl) (hD.sub [] (by decide) rfl) hS (by decide) (by decide) dX1_value_3
