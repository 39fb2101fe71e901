theorem in_s {w : Cond} (h : w ∈ k2_sels lw_privs) : w ∈ lw_tbl := List.mem_append_left _ h
theorem in_1 {w : Cond} (h : w ∈ tables_1_1) : w ∈ lw_tbl := List.mem_append_right _ (List.mem_append_left _ h)
theorem in_2 {w : Cond} (h : w ∈ tables_1_2) : w ∈ lw_tbl := List.mem_append_right _ (List.mem_append_right _ (List.mem_append_left _ h))
theorem in_3 {w : Cond} (h : w ∈ tables_1_3) : w ∈ lw_tbl := List.mem_append_right _ (List.mem_append_right _ (List.mem_append_right _ (List.mem_append_left _ h)))
theorem in_4 {w : Cond} (h : w ∈ tables_1_4) : w ∈ lw_tbl := List.mem_append_right _ (List.mem_append_right _ (List.mem_append_right _ (List.mem_append_right _ (List.mem_append_left _ h))))
theorem in_5 {w : Cond} (h : w ∈ tables_1_5) : w ∈ lw_tbl := List.mem_append_right _ (List.mem_append_right _ (List.mem_append_right _ (List.mem_append_right _ (List.mem_append_right _ h))))
/-- a word that stays true as the tables grow warmer -/
def ck_ok (w : Cond) : Bool := goodWord w || (match w with
  | .castable _ _ => true
  | .declares _ => true
  | .fieldLinkNest _ _ _ _ _ _ => true
  | .methodLinkNest _ _ _ _ => true
  | _ => false)
theorem ev.w {U : State} (h : ev U) {w : Cond} {args : Array Value} (hw : w ∈ lw_tbl) (hk : ck_ok w = true) : w.before args U = true := by
  obtain ⟨s0, b0, hW, h0, -⟩ := h
  have h1 := h0 w hw
  cases hg : goodWord w with
  | true => exact word_at hW (good_of_word hg) h1
  | false =>
    unfold ck_ok at hk
    rw [hg, Bool.false_or] at hk
    cases w <;> first
      | exact Bool.noConfusion (show false = true from hk)
      | exact va_Nw.use rfl (va_Nw.warmC hW (va_Nw.of rfl h1))
      | exact va_Nw.use rfl (va_Nw.warmD hW (va_Nw.of rfl h1))
      | exact va_Nw.use rfl (va_Nw.warmF hW (va_Nw.of rfl h1))
      | exact va_Nw.use rfl (va_Nw.warmM hW (va_Nw.of rfl h1))
theorem ev.str {U : State} (h : ev U) {k : Nat} {tx : String} (h1 : Cond.stringRef RX5 k tx ∈ lw_tbl) (h2 : Cond.exactly (.string RX5 k) "java/lang/String" ∈ flatC (Jvm.Cond.and given_1 narrow_1)) : ∃ sa, vk_R RX5 k tx sa U := by
  obtain ⟨s0, b0, hW, h0, hg⟩ := h
  obtain ⟨sa, _, _, _, he, -⟩ := Cond.exactly_spec (flat_of_before _ hg _ h2)
  exact ⟨sa, vk_R.warm hW (vk_R.of (h0 _ h1) he)⟩
theorem ev.ao {U : State} (h : ev U) {C : String} (hw : Cond.arrayOver (.object C) ∈ lw_tbl) : va_AO C U := by
  obtain ⟨s0, b0, hW, h0, -⟩ := h
  exact va_AO.moved hW.alike (va_AO.of (h0 _ hw))
theorem vi {i : Int32} {n : Nat} (h : (decide (i < 0) || decide (n ≤ i.toNatClampNeg)) = false) : vp_in i n := by
  simp only [Bool.or_eq_false_iff, decide_eq_false_iff_not] at h
  exact fun q => q.elim h.1 h.2
abbrev nIAE : String := "java/lang/IllegalArgumentException"
abbrev nISE : String := "java/lang/IllegalStateException"
abbrev nUp : List String := ["java/lang/RuntimeException", "java/lang/Exception"]
theorem at_IAE : ∀ w ∈ vx_atS RX5 55 nIAE nUp, w ∈ lw_tbl := by decide +kernel
theorem at_ISE : ∀ w ∈ vx_atS RX5 66 nISE nUp, w ∈ lw_tbl := by decide +kernel
theorem ok_IAE : (vx_atS RX5 55 nIAE nUp).all ck_ok = true := by decide +kernel
theorem ok_ISE : (vx_atS RX5 66 nISE nUp).all ck_ok = true := by decide +kernel
theorem ot_IAE : (Cond.classLink RX5 51 nIAE :: Cond.initialized nIAE :: vx_atS RX5 55 nIAE nUp).all vx_ot = true := by decide +kernel
theorem ot_ISE : (Cond.classLink RX5 62 nISE :: Cond.initialized nISE :: vx_atS RX5 66 nISE nUp).all vx_ot = true := by decide +kernel
theorem li_IAE : Cond.classLink RX5 51 nIAE ∈ lw_tbl := by decide +kernel
theorem li_ISE : Cond.classLink RX5 62 nISE ∈ lw_tbl := by decide +kernel
theorem ii_IAE : Cond.initialized nIAE ∈ lw_tbl := by decide +kernel
theorem ii_ISE : Cond.initialized nISE ∈ lw_tbl := by decide +kernel
section CT
variable {p : Program} {l : Launch} {e : Env} {R : Room} {s : State} {m : MethodId} {args : Array Value} {below : List Frame} {meth : Method} {c : Code} {H : Heap} {locs : List Loc} {cells slots : Nat}
variable {cc : ByteArray} {pc is mc ms sz : Nat} {ls : Array Slot} {D : va_G} {S : Type} {post : Option Value → S → Prop} {w1 : S → va_W} {t1 : S → tyL} {X : String → Prop} {ws : va_W} {tx : String} {rest : List Value}
theorem th_IAE (hx : p.tables.exec = Jvm.exec) (hb : c.code = cc) (hl : l.stackTraces = false) (hown : s.vm.findClass RX5 = some m.cls) (hlocks : meth.locks = false) (htb : c.exceptionTable.toList = []) (hE : ev s) (hZ : zz (va_A ws sz) s s.heap) (hS : va_S (va_A ws sz) s.heap H locs) (hsize : ls.size = c.maxLocals)
    (h1 : Cond.stringRef RX5 is tx ∈ lw_tbl) (h2 : Cond.exactly (.string RX5 is) "java/lang/String" ∈ flatC (Jvm.Cond.and given_1 narrow_1))
    (d0 : decode cc pc = .ok (.new 51, 3)) (d3 : decode cc (pc + 3) = .ok (.dup, 1)) (d4 : decode cc (pc + 4) = .ok (.ldc is, 2)) (d6 : decode cc (pc + 6) = .ok (.invokespecial 55, 3)) (d9 : decode cc (pc + 9) = .ok (.athrow, 1))
    (hRf : 5 < R.frames) (hRl : (rest.map fun v => v.category).sum + 82 ≤ R.locals) (hRc : cells + 1 ≤ R.cells) (hRs : slots + 6 ≤ R.slots) (hX : X nIAE) (hc : cells + 1 ≤ mc) (hs : slots + 6 ≤ ms) :
    W p l e R s m args below meth c H locs cells slots (vx_MQ below (aft D ws sz post w1 t1) (thr ws sz X) args s mc ms (va_A ws sz)) (F0 m pc ls rest) := by
  obtain ⟨sa, hstr⟩ := hE.str h1 h2
  refine vx_throwS (names := nUp) hx hb hl hown (by decide +kernel) (by decide +kernel) (hE.w li_IAE (by decide +kernel)) (hE.w ii_IAE (by decide +kernel)) hstr (fun w hw => hE.w (at_IAE w hw) (List.all_eq_true.mp ok_IAE w hw)) (fun w hw => List.all_eq_true.mp ot_IAE w hw) hZ.1 hZ.2 hS hsize d0 d3 d4 d6 d9 (fun x hx => by rw [htb] at hx; cases hx) hRf hRl hRc hRs hlocks ?_ hS.2.2 hc hs
  intro t hv hz hk
  exact ⟨hX, Nat.le_trans hS.1 hz, fun q h1 h2 => (hk q (Nat.lt_of_lt_of_le h1 hS.1)).trans (hS.2.1 q h1 h2)⟩
theorem th_IAEw (hx : p.tables.exec = Jvm.exec) (hb : c.code = cc) (hl : l.stackTraces = false) (hown : s.vm.findClass RX5 = some m.cls) (hlocks : meth.locks = false) (htb : c.exceptionTable.toList = []) (hE : ev s) (hZ : zz (va_A ws sz) s s.heap) (hS : va_S (va_A ws sz) s.heap H locs) (hsize : ls.size = c.maxLocals)
    (h1 : Cond.stringRef RX5 is tx ∈ lw_tbl) (h2 : Cond.exactly (.string RX5 is) "java/lang/String" ∈ flatC (Jvm.Cond.and given_1 narrow_1))
    (d0 : decode cc pc = .ok (.new 51, 3)) (d3 : decode cc (pc + 3) = .ok (.dup, 1)) (d4 : decode cc (pc + 4) = .ok (.ldc_w is, 3)) (d6 : decode cc (pc + 7) = .ok (.invokespecial 55, 3)) (d9 : decode cc (pc + 10) = .ok (.athrow, 1))
    (hRf : 5 < R.frames) (hRl : (rest.map fun v => v.category).sum + 82 ≤ R.locals) (hRc : cells + 1 ≤ R.cells) (hRs : slots + 6 ≤ R.slots) (hX : X nIAE) (hc : cells + 1 ≤ mc) (hs : slots + 6 ≤ ms) :
    W p l e R s m args below meth c H locs cells slots (vx_MQ below (aft D ws sz post w1 t1) (thr ws sz X) args s mc ms (va_A ws sz)) (F0 m pc ls rest) := by
  obtain ⟨sa, hstr⟩ := hE.str h1 h2
  refine vx_throwSW (names := nUp) hx hb hl hown (by decide +kernel) (by decide +kernel) (hE.w li_IAE (by decide +kernel)) (hE.w ii_IAE (by decide +kernel)) hstr (fun w hw => hE.w (at_IAE w hw) (List.all_eq_true.mp ok_IAE w hw)) (fun w hw => List.all_eq_true.mp ot_IAE w hw) hZ.1 hZ.2 hS hsize d0 d3 d4 d6 d9 (fun x hx => by rw [htb] at hx; cases hx) hRf hRl hRc hRs hlocks ?_ hS.2.2 hc hs
  intro t hv hz hk
  exact ⟨hX, Nat.le_trans hS.1 hz, fun q h1 h2 => (hk q (Nat.lt_of_lt_of_le h1 hS.1)).trans (hS.2.1 q h1 h2)⟩
theorem th_ISE (hx : p.tables.exec = Jvm.exec) (hb : c.code = cc) (hl : l.stackTraces = false) (hown : s.vm.findClass RX5 = some m.cls) (hlocks : meth.locks = false) (htb : c.exceptionTable.toList = []) (hE : ev s) (hZ : zz (va_A ws sz) s s.heap) (hS : va_S (va_A ws sz) s.heap H locs) (hsize : ls.size = c.maxLocals)
    (h1 : Cond.stringRef RX5 is tx ∈ lw_tbl) (h2 : Cond.exactly (.string RX5 is) "java/lang/String" ∈ flatC (Jvm.Cond.and given_1 narrow_1))
    (d0 : decode cc pc = .ok (.new 62, 3)) (d3 : decode cc (pc + 3) = .ok (.dup, 1)) (d4 : decode cc (pc + 4) = .ok (.ldc is, 2)) (d6 : decode cc (pc + 6) = .ok (.invokespecial 66, 3)) (d9 : decode cc (pc + 9) = .ok (.athrow, 1))
    (hRf : 5 < R.frames) (hRl : (rest.map fun v => v.category).sum + 82 ≤ R.locals) (hRc : cells + 1 ≤ R.cells) (hRs : slots + 6 ≤ R.slots) (hX : X nISE) (hc : cells + 1 ≤ mc) (hs : slots + 6 ≤ ms) :
    W p l e R s m args below meth c H locs cells slots (vx_MQ below (aft D ws sz post w1 t1) (thr ws sz X) args s mc ms (va_A ws sz)) (F0 m pc ls rest) := by
  obtain ⟨sa, hstr⟩ := hE.str h1 h2
  refine vx_throwS (names := nUp) hx hb hl hown (by decide +kernel) (by decide +kernel) (hE.w li_ISE (by decide +kernel)) (hE.w ii_ISE (by decide +kernel)) hstr (fun w hw => hE.w (at_ISE w hw) (List.all_eq_true.mp ok_ISE w hw)) (fun w hw => List.all_eq_true.mp ot_ISE w hw) hZ.1 hZ.2 hS hsize d0 d3 d4 d6 d9 (fun x hx => by rw [htb] at hx; cases hx) hRf hRl hRc hRs hlocks ?_ hS.2.2 hc hs
  intro t hv hz hk
  exact ⟨hX, Nat.le_trans hS.1 hz, fun q h1 h2 => (hk q (Nat.lt_of_lt_of_le h1 hS.1)).trans (hS.2.1 q h1 h2)⟩
theorem th_ISEw (hx : p.tables.exec = Jvm.exec) (hb : c.code = cc) (hl : l.stackTraces = false) (hown : s.vm.findClass RX5 = some m.cls) (hlocks : meth.locks = false) (htb : c.exceptionTable.toList = []) (hE : ev s) (hZ : zz (va_A ws sz) s s.heap) (hS : va_S (va_A ws sz) s.heap H locs) (hsize : ls.size = c.maxLocals)
    (h1 : Cond.stringRef RX5 is tx ∈ lw_tbl) (h2 : Cond.exactly (.string RX5 is) "java/lang/String" ∈ flatC (Jvm.Cond.and given_1 narrow_1))
    (d0 : decode cc pc = .ok (.new 62, 3)) (d3 : decode cc (pc + 3) = .ok (.dup, 1)) (d4 : decode cc (pc + 4) = .ok (.ldc_w is, 3)) (d6 : decode cc (pc + 7) = .ok (.invokespecial 66, 3)) (d9 : decode cc (pc + 10) = .ok (.athrow, 1))
    (hRf : 5 < R.frames) (hRl : (rest.map fun v => v.category).sum + 82 ≤ R.locals) (hRc : cells + 1 ≤ R.cells) (hRs : slots + 6 ≤ R.slots) (hX : X nISE) (hc : cells + 1 ≤ mc) (hs : slots + 6 ≤ ms) :
    W p l e R s m args below meth c H locs cells slots (vx_MQ below (aft D ws sz post w1 t1) (thr ws sz X) args s mc ms (va_A ws sz)) (F0 m pc ls rest) := by
  obtain ⟨sa, hstr⟩ := hE.str h1 h2
  refine vx_throwSW (names := nUp) hx hb hl hown (by decide +kernel) (by decide +kernel) (hE.w li_ISE (by decide +kernel)) (hE.w ii_ISE (by decide +kernel)) hstr (fun w hw => hE.w (at_ISE w hw) (List.all_eq_true.mp ok_ISE w hw)) (fun w hw => List.all_eq_true.mp ot_ISE w hw) hZ.1 hZ.2 hS hsize d0 d3 d4 d6 d9 (fun x hx => by rw [htb] at hx; cases hx) hRf hRl hRc hRs hlocks ?_ hS.2.2 hc hs
  intro t hv hz hk
  exact ⟨hX, Nat.le_trans hS.1 hz, fun q h1 h2 => (hk q (Nat.lt_of_lt_of_le h1 hS.1)).trans (hS.2.1 q h1 h2)⟩
end CT
theorem inG_X0 : ∀ w ∈ wsX00, w ∈ lw_G := fun w h => G_in ((by decide +kernel : ∀ w ∈ wsX00, w ∈ lw_tbl) w h) ((by decide +kernel : ∀ w ∈ wsX00, goodWord w = true) w h)
theorem inG_X2 : ∀ w ∈ wsX20, w ∈ lw_G := fun w h => G_in ((by decide +kernel : ∀ w ∈ wsX20, w ∈ lw_tbl) w h) ((by decide +kernel : ∀ w ∈ wsX20, goodWord w = true) w h)
theorem inG_X3 : ∀ w ∈ wsX30, w ∈ lw_G := fun w h => G_in ((by decide +kernel : ∀ w ∈ wsX30, w ∈ lw_tbl) w h) ((by decide +kernel : ∀ w ∈ wsX30, goodWord w = true) w h)
theorem inG_X4 : ∀ w ∈ wsX40, w ∈ lw_G := fun w h => G_in ((by decide +kernel : ∀ w ∈ wsX40, w ∈ lw_tbl) w h) ((by decide +kernel : ∀ w ∈ wsX40, goodWord w = true) w h)
theorem inG_X5 : ∀ w ∈ wsX50, w ∈ lw_G := fun w h => G_in ((by decide +kernel : ∀ w ∈ wsX50, w ∈ lw_tbl) w h) ((by decide +kernel : ∀ w ∈ wsX50, goodWord w = true) w h)
theorem inG_X6 : ∀ w ∈ wsX60, w ∈ lw_G := fun w h => G_in ((by decide +kernel : ∀ w ∈ wsX60, w ∈ lw_tbl) w h) ((by decide +kernel : ∀ w ∈ wsX60, goodWord w = true) w h)
section CN
variable {p : Program} {l : Launch} {e : Env} {R : Room} {s : State} {m : MethodId} {args : Array Value} {below : List Frame} {meth : Method} {c : Code} {H : Heap} {locs : List Loc} {cells slots : Nat} {Q : State → Prop}
theorem ck_topl {x y : Int64} {pc : Nat} {ls : Array Slot} {rest : List Value} (h : x = y) (k : W p l e R s m args below meth c H locs cells slots Q (F0 m pc ls (.long y :: rest))) : W p l e R s m args below meth c H locs cells slots Q (F0 m pc ls (.long x :: rest)) := by rw [h]; exact k
theorem cn_I {own host : String} {index n maxL' fr lc mc ms : Nat} {y : MethodName} {bytes : ByteArray} (hts : ∀ w ∈ lw_G, w.before args s = true) (hE : ev s) (t0 : Cond.methodLinkNest own index y host ∈ lw_tbl) (t1 : Cond.instanceMethod y ∈ lw_G) (t3 : Cond.initialized y.cls ∈ lw_G) (t4 : Cond.code y bytes maxL' none ∈ lw_G) (hy1 : y.name = "<init>")
    (hd : y.cls ≠ "java/lang/invoke/MethodHandle" ∧ y.cls ≠ "java/lang/invoke/VarHandle" ∧ (parseMethodDescriptor y.desc).map (fun d => d.parameters.length) = some n) (hR : fr + 1 ≤ R.frames ∧ 8 + (maxL' + 11) + lc ≤ R.locals) :
    va_CN R s args own index y host bytes maxL' none [Cond.code y bytes maxL' none] (rmK fr lc mc ms) mc ms n ∧ y.name = "<init>" ∧ (Cond.instanceMethod y).before args s = true := by
  refine ⟨va_cnB n hts (fun w hw => ?_) rfl rfl rfl (va_Nw.of rfl (hE.w (args := #[]) t0 rfl)) (hts _ t3) hd hR, hy1, hts _ t1⟩
  have h : w ∈ lw_G := by
    simp only [List.mem_cons, List.not_mem_nil, or_false] at hw
    rw [hw]; exact t4
  exact ⟨h, G_good h⟩
end CN
theorem sw_5 {x : Int32} (h0 : ¬ x = 0) (h1 : ¬ x = 1) (h2 : ¬ x = 2) (h3 : ¬ x = 3) (h4 : ¬ x = 4) : x.toInt < 0 ∨ 4 < x.toInt := by
  have g0 := lv_neT (a := 0) h0 (by decide)
  have g1 := lv_neT (a := 1) h1 (by decide)
  have g2 := lv_neT (a := 2) h2 (by decide)
  have g3 := lv_neT (a := 3) h3 (by decide)
  have g4 := lv_neT (a := 4) h4 (by decide)
  omega
theorem ck_12 {x : Int32} (h : x < 2) : x ≤ 1 := by
  rw [Int32.lt_iff_toInt_lt] at h
  rw [Int32.le_iff_toInt_le]
  have h1 : (2 : Int32).toInt = 2 := by decide
  have h2 : (1 : Int32).toInt = 1 := by decide
  omega
theorem ck_21 {x : Int32} (h : x ≤ 1) : x < 2 := by
  rw [Int32.le_iff_toInt_le] at h
  rw [Int32.lt_iff_toInt_lt]
  have h1 : (2 : Int32).toInt = 2 := by decide
  have h2 : (1 : Int32).toInt = 1 := by decide
  omega
