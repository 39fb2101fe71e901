/-! Methods that return, or throw and leave a world of which something is known. -/
def thw (D : va_G) (ws : va_W) (sz : Nat) {T : Type} (xp : String → T → Prop) (w2 : T → va_W) : String → State → State → Prop := fun E st t =>
  (∃ u : T, xp E u ∧ va_P D vwCl (w2 u) t.heap ∧ va_D (va_A ws sz) (w2 u)) ∧ va_F (va_A ws sz) st t
def cY (l : Launch) (y : MethodName) (wd : Cond) (fr lc mc ms : Nat) (Args : List Value) (D : va_G) (tys : tyL) (ws : va_W) (sz : Nat) {S : Type} (post : Option Value → S → Prop) (w1 : S → va_W) (t1 : S → tyL) {T : Type} (xp : String → T → Prop) (w2 : T → va_W) : Prop :=
  vx_Met l y [wd] (rmK fr lc mc ms) (va_Pc Args (pre D tys ws sz)) (aft D ws sz post w1 t1) (thw D ws sz xp w2) mc ms (va_A ws sz)
section CY
variable {l : Launch} {y : MethodName} {cc : ByteArray} {maxL fr lc mc ms sz : Nat} {ret : Option FieldType} {Args : List Value} {D : va_G} {tys : tyL} {ws : va_W} {S T : Type} {post : Option Value → S → Prop} {w1 : S → va_W} {t1 : S → tyL} {xp : String → T → Prop} {w2 : T → va_W}
theorem cY_of (hy : plainName y.cls = true) (hn : (lg_sl Args).length ≤ maxL)
    (body : ∀ (p : Program) (e : Env) (s : State) (m : MethodId) (below : List Frame) (meth : Method) (c : Code) (ls : Array Slot), cF p m meth c cc maxL ret s y Args [] → s.heap.size = sz → va_P D vwCl ws s.heap → va_K D vwCl tys s → va_D (va_A ws sz) ws → ev s → zz (va_A ws sz) s s.heap → (∀ q, s.heap.size ≤ q → va_A ws sz q) → lv_has ls maxL (lv_args 0 Args) →
      W p l e (rmK fr lc mc ms) s m Args.toArray below meth c s.heap [] 0 0 (vx_MQ below (aft D ws sz post w1 t1) (thw D ws sz xp w2) Args.toArray s mc ms (va_A ws sz)) (F0 m 0 ls [])) : cY l y (.code y cc maxL ret) fr lc mc ms Args D tys ws sz post w1 t1 xp w2 := by
  refine vx_ofW (cc := cc) (maxL := maxL) (ret := ret) hy rfl ?_
  intro p e s m args below meth c s₁ B hml ht0 hv
  obtain ⟨rfl, hsz, hP, hK, hD0, hE, hZ⟩ := hv
  have hl := lv_entry Args (n := maxL) hn
  rw [lg_entry_eq]
  have ht : c.exceptionTable.toList = [] := by
    cases h : c.exceptionTable.toList with
    | nil => rfl
    | cons x r => exact (ht0 x (by rw [h]; exact List.mem_cons_self)).elim
  exact body p e s m below meth c _ ⟨B.exec, B.bytes, B.returns, hml, findClass_of_methodNamed B.named, B.notSynchronized, (name_of_methodNamed B.named B.method).1, ht, hE.hts⟩ hsz hP hK (hD0.self (sz := sz)) hE hZ (fun q h => Or.inr (by rw [← hsz]; exact h)) hl
end CY
section CYP
variable {p : Program} {l : Launch} {e : Env} {R : Room} {s : State} {m : MethodId} {args : Array Value} {below : List Frame} {meth : Method} {c : Code} {H : Heap} {locs : List Loc} {cells slots : Nat} {Q : State → Prop}
variable {pc : Nat} {ls : Array Slot} {D : va_G} {mc ms : Nat} {S T : Type} {post : Option Value → S → Prop} {w1 rx pl1 : S → va_W} {t1 : S → tyL} {xp : String → T → Prop} {w2 ry pl2 : T → va_W} {A0 : Nat → Prop} {Xc cx wr pl : va_W} {tys : tyL} {a : Array Value} {st0 rest : List Value}
theorem cy_runP (hr : vx_Run p l e R s m args below meth c H locs cells slots mc ms (F0 m pc ls st0) rest (aft D (cx ++ pl) H.size post w1 t1 a) (thw D (cx ++ pl) H.size xp w2) (va_A (cx ++ pl) H.size)) (hP : va_P D vwCl (Xc ++ pl) H) (hD : va_D A0 (Xc ++ pl)) (hK : va_K D vwCl tys s) (hS : va_S A0 s.heap H locs) (hA : ∀ q, s.heap.size ≤ q → A0 q) (hw1 : ∀ u, w1 u = rx u ++ pl1 u) (hw2 : ∀ u, w2 u = ry u ++ pl2 u)
    (isC isR : List Nat) (hC : isC.map (fun i => Xc[i]?) = cx.map some) (hR : isR.map (fun i => Xc[i]?) = wr.map some) (hn : va_nd isR = true) (hdis : ∀ i ∈ isR, i ∉ isC)
    (kx : ∀ (E : String) (ce : Cell) (q9 : Addr) (u : T) (H1 : Heap) (locs1 : List Loc), xp E u → va_P D vwCl ((wr ++ ry u) ++ pl2 u) H1 → va_D A0 ((wr ++ ry u) ++ pl2 u) → va_S A0 s.heap H1 locs1 → H1[q9]? = some ce → ce.vm = .none → s.vm.findClass E = some ce.cls → vx_W p l e R s m args below meth c H1 locs1 (cells + mc) (slots + ms) Q (F0 m pc ls rest) q9)
    (kk : ∀ (v : Option Value) (u : S) (H1 : Heap) (locs1 : List Loc), post v u → va_P D vwCl ((wr ++ rx u) ++ pl1 u) H1 → va_D A0 ((wr ++ rx u) ++ pl1 u) → va_K D vwCl (tys ++ t1 u) s → va_S A0 s.heap H1 locs1 → W p l e R s m args below meth c H1 locs1 (cells + mc) (slots + ms) Q (F0 m (pc + 3) ls (v.toList ++ rest))) :
    W p l e R s m args below meth c H locs cells slots Q (F0 m pc ls st0) := by
  intro T0 hT X0
  have hFr := va_freeP (cx := cx) hD hS hA isC hC
  rcases hr T0 hT X0 with ⟨v, st₀, t, T', L, h0, X', hL, e1, e2, ⟨⟨v', u, hv, hp, hP1, hK1, hD1⟩, hF⟩, st⟩ | ⟨q, st₀, t, T', L, E, ce, h0, X', hL, e1, e2, ⟨⟨u, hxE, hP1, hD1⟩, hF⟩, hce, hcv, hcl, st⟩
  · cases hv
    obtain ⟨k1, k2, k3⟩ := vx_keep h0 e1 hS (fun q _ h => hFr q h) hFr hL hF
    rw [← e1] at hP1
    rw [hw1] at hP1 hD1
    obtain ⟨jP, jD⟩ := va_joinP hP hD isC isR hC hR hn hdis k2 hFr hP1 hD1
    have jK : va_K D vwCl (t1 u) s := va_K.moved (by rw [← e2]; exact X'.warmed.alike.symm) hK1
    obtain ⟨t2, a1, b1⟩ := kk v u T'.heap (locs ++ L) hp jP jD (hK.app jK) k3 T' rfl X'
    exact ⟨t2, st t2 a1, b1⟩
  · obtain ⟨k1, k2, k3⟩ := vx_keep h0 e1 hS (fun q _ h => hFr q h) hFr hL hF
    rw [← e1] at hP1
    rw [hw2] at hP1 hD1
    obtain ⟨jP, jD⟩ := va_joinP hP hD isC isR hC hR hn hdis k2 hFr hP1 hD1
    obtain ⟨t2, a1, b1⟩ := kx E ce q u T'.heap (locs ++ L) hxE jP jD k3 (by rw [e1]; exact hce) hcv hcl T' rfl X'
    exact ⟨t2, st.trans a1, b1⟩
end CYP
section TY
variable {p : Program} {l : Launch} {e : Env} {R : Room} {s : State} {m : MethodId} {args : Array Value} {below : List Frame} {meth : Method} {c : Code} {H : Heap} {locs : List Loc} {cells slots : Nat}
variable {cc : ByteArray} {pc is mc ms sz : Nat} {ls : Array Slot} {D : va_G} {S : Type} {post : Option Value → S → Prop} {w1 : S → va_W} {t1 : S → tyL} {T : Type} {xp : String → T → Prop} {w2 : T → va_W} {ws : va_W} {tx : String} {rest : List Value}
theorem ty_IAE (hx : p.tables.exec = Jvm.exec) (hb : c.code = cc) (hl : l.stackTraces = false) (hown : s.vm.findClass RX5 = some m.cls) (hlocks : meth.locks = false) (htb : c.exceptionTable.toList = []) (hE : ev s) (hZ : zz (va_A ws sz) s s.heap) (hS : va_S (va_A ws sz) s.heap H locs) (hsize : ls.size = c.maxLocals)
    (h1 : Cond.stringRef RX5 is tx ∈ lw_tbl) (h2 : Cond.exactly (.string RX5 is) "java/lang/String" ∈ flatC (Jvm.Cond.and given_1 narrow_1))
    (d0 : decode cc pc = .ok (.new 51, 3)) (d3 : decode cc (pc + 3) = .ok (.dup, 1)) (d4 : decode cc (pc + 4) = .ok (.ldc is, 2)) (d6 : decode cc (pc + 6) = .ok (.invokespecial 55, 3)) (d9 : decode cc (pc + 9) = .ok (.athrow, 1))
    (hRf : 5 < R.frames) (hRl : (rest.map fun v => v.category).sum + 82 ≤ R.locals) (hRc : cells + 1 ≤ R.cells) (hRs : slots + 6 ≤ R.slots) (u : T) (hX : xp nIAE u) (hP : va_P D vwCl (w2 u) H) (hD : va_D (va_A ws sz) (w2 u)) (hc : cells + 1 ≤ mc) (hs : slots + 6 ≤ ms) :
    W p l e R s m args below meth c H locs cells slots (vx_MQ below (aft D ws sz post w1 t1) (thw D ws sz xp w2) args s mc ms (va_A ws sz)) (F0 m pc ls rest) := by
  obtain ⟨sa, hstr⟩ := hE.str h1 h2
  refine vx_throwS (names := nUp) hx hb hl hown (by decide +kernel) (by decide +kernel) (hE.w li_IAE (by decide +kernel)) (hE.w ii_IAE (by decide +kernel)) hstr (fun w hw => hE.w (at_IAE w hw) (List.all_eq_true.mp ok_IAE w hw)) (fun w hw => List.all_eq_true.mp ot_IAE w hw) hZ.1 hZ.2 hS hsize d0 d3 d4 d6 d9 (fun x hx => by rw [htb] at hx; cases hx) hRf hRl hRc hRs hlocks ?_ hS.2.2 hc hs
  intro t hv hz hk
  exact ⟨⟨u, hX, hP.kept (fun k q hk9 => hk _ ((hP k q hk9).lt)), hD⟩, Nat.le_trans hS.1 hz, fun q h1 h2 => (hk q (Nat.lt_of_lt_of_le h1 hS.1)).trans (hS.2.1 q h1 h2)⟩
theorem ty_IAEw (hx : p.tables.exec = Jvm.exec) (hb : c.code = cc) (hl : l.stackTraces = false) (hown : s.vm.findClass RX5 = some m.cls) (hlocks : meth.locks = false) (htb : c.exceptionTable.toList = []) (hE : ev s) (hZ : zz (va_A ws sz) s s.heap) (hS : va_S (va_A ws sz) s.heap H locs) (hsize : ls.size = c.maxLocals)
    (h1 : Cond.stringRef RX5 is tx ∈ lw_tbl) (h2 : Cond.exactly (.string RX5 is) "java/lang/String" ∈ flatC (Jvm.Cond.and given_1 narrow_1))
    (d0 : decode cc pc = .ok (.new 51, 3)) (d3 : decode cc (pc + 3) = .ok (.dup, 1)) (d4 : decode cc (pc + 4) = .ok (.ldc_w is, 3)) (d6 : decode cc (pc + 7) = .ok (.invokespecial 55, 3)) (d9 : decode cc (pc + 10) = .ok (.athrow, 1))
    (hRf : 5 < R.frames) (hRl : (rest.map fun v => v.category).sum + 82 ≤ R.locals) (hRc : cells + 1 ≤ R.cells) (hRs : slots + 6 ≤ R.slots) (u : T) (hX : xp nIAE u) (hP : va_P D vwCl (w2 u) H) (hD : va_D (va_A ws sz) (w2 u)) (hc : cells + 1 ≤ mc) (hs : slots + 6 ≤ ms) :
    W p l e R s m args below meth c H locs cells slots (vx_MQ below (aft D ws sz post w1 t1) (thw D ws sz xp w2) args s mc ms (va_A ws sz)) (F0 m pc ls rest) := by
  obtain ⟨sa, hstr⟩ := hE.str h1 h2
  refine vx_throwSW (names := nUp) hx hb hl hown (by decide +kernel) (by decide +kernel) (hE.w li_IAE (by decide +kernel)) (hE.w ii_IAE (by decide +kernel)) hstr (fun w hw => hE.w (at_IAE w hw) (List.all_eq_true.mp ok_IAE w hw)) (fun w hw => List.all_eq_true.mp ot_IAE w hw) hZ.1 hZ.2 hS hsize d0 d3 d4 d6 d9 (fun x hx => by rw [htb] at hx; cases hx) hRf hRl hRc hRs hlocks ?_ hS.2.2 hc hs
  intro t hv hz hk
  exact ⟨⟨u, hX, hP.kept (fun k q hk9 => hk _ ((hP k q hk9).lt)), hD⟩, Nat.le_trans hS.1 hz, fun q h1 h2 => (hk q (Nat.lt_of_lt_of_le h1 hS.1)).trans (hS.2.1 q h1 h2)⟩
theorem ty_ISE (hx : p.tables.exec = Jvm.exec) (hb : c.code = cc) (hl : l.stackTraces = false) (hown : s.vm.findClass RX5 = some m.cls) (hlocks : meth.locks = false) (htb : c.exceptionTable.toList = []) (hE : ev s) (hZ : zz (va_A ws sz) s s.heap) (hS : va_S (va_A ws sz) s.heap H locs) (hsize : ls.size = c.maxLocals)
    (h1 : Cond.stringRef RX5 is tx ∈ lw_tbl) (h2 : Cond.exactly (.string RX5 is) "java/lang/String" ∈ flatC (Jvm.Cond.and given_1 narrow_1))
    (d0 : decode cc pc = .ok (.new 62, 3)) (d3 : decode cc (pc + 3) = .ok (.dup, 1)) (d4 : decode cc (pc + 4) = .ok (.ldc is, 2)) (d6 : decode cc (pc + 6) = .ok (.invokespecial 66, 3)) (d9 : decode cc (pc + 9) = .ok (.athrow, 1))
    (hRf : 5 < R.frames) (hRl : (rest.map fun v => v.category).sum + 82 ≤ R.locals) (hRc : cells + 1 ≤ R.cells) (hRs : slots + 6 ≤ R.slots) (u : T) (hX : xp nISE u) (hP : va_P D vwCl (w2 u) H) (hD : va_D (va_A ws sz) (w2 u)) (hc : cells + 1 ≤ mc) (hs : slots + 6 ≤ ms) :
    W p l e R s m args below meth c H locs cells slots (vx_MQ below (aft D ws sz post w1 t1) (thw D ws sz xp w2) args s mc ms (va_A ws sz)) (F0 m pc ls rest) := by
  obtain ⟨sa, hstr⟩ := hE.str h1 h2
  refine vx_throwS (names := nUp) hx hb hl hown (by decide +kernel) (by decide +kernel) (hE.w li_ISE (by decide +kernel)) (hE.w ii_ISE (by decide +kernel)) hstr (fun w hw => hE.w (at_ISE w hw) (List.all_eq_true.mp ok_ISE w hw)) (fun w hw => List.all_eq_true.mp ot_ISE w hw) hZ.1 hZ.2 hS hsize d0 d3 d4 d6 d9 (fun x hx => by rw [htb] at hx; cases hx) hRf hRl hRc hRs hlocks ?_ hS.2.2 hc hs
  intro t hv hz hk
  exact ⟨⟨u, hX, hP.kept (fun k q hk9 => hk _ ((hP k q hk9).lt)), hD⟩, Nat.le_trans hS.1 hz, fun q h1 h2 => (hk q (Nat.lt_of_lt_of_le h1 hS.1)).trans (hS.2.1 q h1 h2)⟩
theorem ty_ISEw (hx : p.tables.exec = Jvm.exec) (hb : c.code = cc) (hl : l.stackTraces = false) (hown : s.vm.findClass RX5 = some m.cls) (hlocks : meth.locks = false) (htb : c.exceptionTable.toList = []) (hE : ev s) (hZ : zz (va_A ws sz) s s.heap) (hS : va_S (va_A ws sz) s.heap H locs) (hsize : ls.size = c.maxLocals)
    (h1 : Cond.stringRef RX5 is tx ∈ lw_tbl) (h2 : Cond.exactly (.string RX5 is) "java/lang/String" ∈ flatC (Jvm.Cond.and given_1 narrow_1))
    (d0 : decode cc pc = .ok (.new 62, 3)) (d3 : decode cc (pc + 3) = .ok (.dup, 1)) (d4 : decode cc (pc + 4) = .ok (.ldc_w is, 3)) (d6 : decode cc (pc + 7) = .ok (.invokespecial 66, 3)) (d9 : decode cc (pc + 10) = .ok (.athrow, 1))
    (hRf : 5 < R.frames) (hRl : (rest.map fun v => v.category).sum + 82 ≤ R.locals) (hRc : cells + 1 ≤ R.cells) (hRs : slots + 6 ≤ R.slots) (u : T) (hX : xp nISE u) (hP : va_P D vwCl (w2 u) H) (hD : va_D (va_A ws sz) (w2 u)) (hc : cells + 1 ≤ mc) (hs : slots + 6 ≤ ms) :
    W p l e R s m args below meth c H locs cells slots (vx_MQ below (aft D ws sz post w1 t1) (thw D ws sz xp w2) args s mc ms (va_A ws sz)) (F0 m pc ls rest) := by
  obtain ⟨sa, hstr⟩ := hE.str h1 h2
  refine vx_throwSW (names := nUp) hx hb hl hown (by decide +kernel) (by decide +kernel) (hE.w li_ISE (by decide +kernel)) (hE.w ii_ISE (by decide +kernel)) hstr (fun w hw => hE.w (at_ISE w hw) (List.all_eq_true.mp ok_ISE w hw)) (fun w hw => List.all_eq_true.mp ot_ISE w hw) hZ.1 hZ.2 hS hsize d0 d3 d4 d6 d9 (fun x hx => by rw [htb] at hx; cases hx) hRf hRl hRc hRs hlocks ?_ hS.2.2 hc hs
  intro t hv hz hk
  exact ⟨⟨u, hX, hP.kept (fun k q hk9 => hk _ ((hP k q hk9).lt)), hD⟩, Nat.le_trans hS.1 hz, fun q h1 h2 => (hk q (Nat.lt_of_lt_of_le h1 hS.1)).trans (hS.2.1 q h1 h2)⟩
end TY
