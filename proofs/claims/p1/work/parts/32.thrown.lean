set_option maxHeartbeats 4000000 in
set_option maxRecDepth 100000 in
theorem m_thrown (l : Launch) (D : va_G) (sz : Nat) (mo : Nat) (t : Int32) (fr : List Value) : cM l yX6_thrown (.code yX6_thrown cX6_thrown 1 (some .int)) 10 270 0 0 [.ref mo] D [] [(mo, .inr (5, .int t :: fr))] sz (S := Unit) (fun v _ => v = some (.int t)) (fun _ => [(mo, .inr (5, .int t :: fr))]) (fun _ => []) := by
  refine cM_of (by decide) (Nat.le_of_ble_eq_true rfl) ?_
  intro p e s m below meth c ls hF hsz hP hK hD hE hZ hA hl
  obtain ⟨hx, hb, hr, hml, hown, hlocks, hnm, htb, hts⟩ := hF
  have hown : s.vm.findClass RX6 = some m.cls := hown
  have hl : lv_has ls 1 [(0, .ref mo)] := hl
  have hS : va_S (va_A [(mo, .inr (5, .int t :: fr))] sz) s.heap s.heap [] := va_S.rf
  refine lv_aload_n hx hb dX6_thrown_0 rfl (lv_at hl 0 rfl) ?_
  refine va_get (ci := 5) (v := .int t) (C := RX6) (T := TX6) (N := 39) hx hb hts inG_X6 hown hK hP 0 rfl rfl 0 (by decide) (hts _ tw_4_23) (fun _ h9 => h9) rfl dX6_thrown_1 ?_
  exact ck_iret () hx hb hr rfl hlocks rfl (hP.sub [0] rfl) (hK.sub [] rfl) (hD.sub [0] (by decide) rfl) hS (by decide) (by decide) dX6_thrown_4
