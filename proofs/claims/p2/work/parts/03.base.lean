/-! THE GROUND OF ALL CONTRACTS HERE: the tables' words, known at the law's entry s0 and carried on to every later state; a world of cells before and behind a call. -/
def lw_G : List Cond := lw_tbl.filter goodWord
theorem G_in {w : Cond} (h : w ∈ lw_tbl) (g : goodWord w = true) : w ∈ lw_G := List.mem_filter.mpr ⟨h, g⟩
theorem G_good {w : Cond} (h : w ∈ lw_G) : (w.onTables && w.keeps) = true ∨ ∃ ty, w = .arrayClass ty := good_of_word (List.mem_filter.mp h).2
/-- the launch's tables, as the law's entry has them, grown warmer at most -/
def ev (U : State) : Prop := ∃ (s0 : State) (b0 : Nat), s0.WarmedH U.vm ∧ (∀ w ∈ lw_tbl, w.before #[Value.ref b0] s0 = true) ∧ (Jvm.Cond.and given_1 narrow_1).before #[Value.ref b0] s0 = true
theorem ev.hts {U : State} (h : ev U) {args : Array Value} : ∀ w ∈ lw_G, w.before args U = true := by
  obtain ⟨s0, b0, hW, h0, -⟩ := h
  exact fun w hw => word_at hW (G_good hw) (h0 w (List.mem_filter.mp hw).1)
theorem ev.warm {s U : State} (h : ev s) (hW : s.WarmedH U.vm) : ev U := by
  obtain ⟨s0, b0, hW0, h0⟩ := h
  exact ⟨s0, b0, State.WarmedH.trans hW0 hW, h0⟩
theorem ev.same {s U : State} (h : ev s) (hv : U.vm = s.vm) : ev U := by
  obtain ⟨s0, b0, hW0, h0⟩ := h
  exact ⟨s0, b0, by rw [hv]; exact hW0, h0⟩
/-- Throwable's two statics, outside of A -/
def zz (A : Nat → Prop) (U : State) (H : Heap) : Prop := vx_Zq Bundle.tN "UNASSIGNED_STACK" Bundle.steD A U H ∧ vx_Zq Bundle.tN "SUPPRESSED_SENTINEL" Bundle.listD A U H
theorem zz.moved {A : Nat → Prop} {u U : State} {H : Heap} (hvm : u.vm.Alike U.vm) (h : zz A u H) : zz A U H := ⟨h.1.moved hvm, h.2.moved hvm⟩
theorem zz.kept {A : Nat → Prop} {U : State} {H H1 : Heap} (h : zz A U H) (hq : ∀ a : Nat, a < H.size → ¬ A a → H1[a]? = H[a]?) : zz A U H1 := ⟨h.1.kept hq, h.2.kept hq⟩
theorem zz.narrow {A B : Nat → Prop} {U : State} {H : Heap} (h : zz A U H) (hAB : ∀ q, B q → A q) : zz B U H := ⟨h.1.narrow hAB, h.2.narrow hAB⟩
abbrev tyL : Type := List (ClassId × FieldType)
/-- a method's start: the cells ws, the array classes tys, sz cells in all -/
def pre (D : va_G) (tys : tyL) (ws : va_W) (sz : Nat) (U : State) : Prop :=
  U.heap.size = sz ∧ va_P D vwCl ws U.heap ∧ va_K D vwCl tys U ∧ va_D (fun _ => True) ws ∧ ev U ∧ zz (va_A ws sz) U U.heap
theorem pre.blind {D : va_G} {tys : tyL} {ws : va_W} {sz : Nat} {Args : List Value} : FrameBlind (va_Pc Args (pre D tys ws sz)) := by
  intro a U g mk q
  obtain ⟨q0, q1, qP, qK, qD, qE, qZ⟩ := q
  exact ⟨q0, q1, qP, va_K.moved (u := U) (U := U.calling g mk a) (Vm.Alike.refl U.vm) qK, qD, qE.same rfl, zz.moved (u := U) (U := U.calling g mk a) (Vm.Alike.refl U.vm) qZ⟩
/-- what holds behind a method that returned -/
def aft (D : va_G) (ws : va_W) (sz : Nat) {S : Type} (post : Option Value → S → Prop) (w1 : S → va_W) (t1 : S → tyL) : Array Value → State → Outcome → State → Prop := fun _ st o t =>
  (∃ (v : Option Value) (u : S), o = .returned v ∧ post v u ∧ va_P D vwCl (w1 u) t.heap ∧ va_K D vwCl (t1 u) t ∧ va_D (va_A ws sz) (w1 u)) ∧ va_F (va_A ws sz) st t
def thr (ws : va_W) (sz : Nat) (X : String → Prop) : String → State → State → Prop := fun E st t => X E ∧ va_F (va_A ws sz) st t
abbrev rmK (fr lc mc ms : Nat) : Room := { frames := fr, cells := mc, slots := ms, locals := lc }
/-- a contract of a method that returns -/
def cM (l : Launch) (y : MethodName) (wd : Cond) (fr lc mc ms : Nat) (Args : List Value) (D : va_G) (tys : tyL) (ws : va_W) (sz : Nat) {S : Type} (post : Option Value → S → Prop) (w1 : S → va_W) (t1 : S → tyL) : Prop :=
  Met l y [wd] (rmK fr lc mc ms) (va_Pc Args (pre D tys ws sz)) (aft D ws sz post w1 t1) mc ms (va_A ws sz)
/-- a contract of a method that returns or throws -/
def cX (l : Launch) (y : MethodName) (wd : Cond) (fr lc mc ms : Nat) (Args : List Value) (D : va_G) (tys : tyL) (ws : va_W) (sz : Nat) {S : Type} (post : Option Value → S → Prop) (w1 : S → va_W) (t1 : S → tyL) (X : String → Prop) : Prop :=
  vx_Met l y [wd] (rmK fr lc mc ms) (va_Pc Args (pre D tys ws sz)) (aft D ws sz post w1 t1) (thr ws sz X) mc ms (va_A ws sz)
/-- what a body starts with -/
abbrev cF (p : Program) (m : MethodId) (meth : Method) (c : Code) (cc : ByteArray) (maxL : Nat) (ret : Option FieldType) (s : State) (y : MethodName) (Args : List Value) (tb : List ExceptionTableEntry) : Prop :=
  p.tables.exec = Jvm.exec ∧ c.code = cc ∧ meth.sig.returnType = ret ∧ c.maxLocals = maxL ∧ s.vm.findClass y.cls = some m.cls ∧ meth.locks = false ∧ meth.name = y.name ∧ c.exceptionTable.toList = tb ∧ (∀ w ∈ lw_G, w.before Args.toArray s = true)
section CB
variable {l : Launch} {y : MethodName} {cc : ByteArray} {maxL fr lc mc ms sz : Nat} {ret : Option FieldType} {Args : List Value} {D : va_G} {tys : tyL} {ws : va_W} {S : Type} {post : Option Value → S → Prop} {w1 : S → va_W} {t1 : S → tyL} {X : String → Prop}
theorem cM_of (hy : plainName y.cls = true) (hn : (lg_sl Args).length ≤ maxL)
    (body : ∀ (p : Program) (e : Env) (s : State) (m : MethodId) (below : List Frame) (meth : Method) (c : Code) (ls : Array Slot), cF p m meth c cc maxL ret s y Args [] → s.heap.size = sz → va_P D vwCl ws s.heap → va_K D vwCl tys s → va_D (va_A ws sz) ws → ev s → zz (va_A ws sz) s s.heap → (∀ q, s.heap.size ≤ q → va_A ws sz q) → lv_has ls maxL (lv_args 0 Args) →
      W p l e (rmK fr lc mc ms) s m Args.toArray below meth c s.heap [] 0 0 (MQ below (aft D ws sz post w1 t1) Args.toArray s mc ms (va_A ws sz)) (F0 m 0 ls [])) : cM l y (.code y cc maxL ret) fr lc mc ms Args D tys ws sz post w1 t1 := by
  refine Met.ofW (cc := cc) (maxL := maxL) (ret := ret) hy rfl ?_
  intro p e s m args below meth c s₁ B hml hv
  obtain ⟨rfl, hsz, hP, hK, hD0, hE, hZ⟩ := hv
  have hl := lv_entry Args (n := maxL) hn
  rw [lg_entry_eq]
  have ht : c.exceptionTable.toList = [] := by
    obtain ⟨meth9, c9, h1, h2, -, -, -, -, h7, -⟩ := Cond.code_spec B.named (atoms_spec (ws := [Cond.code y cc maxL ret]) B.pre _ List.mem_cons_self)
    cases Option.some.inj (h1.symm.trans B.method)
    cases Option.some.inj (h2.symm.trans (Stand.of_body B).code)
    rw [Array.isEmpty_iff.mp h7]
  exact body p e s m below meth c _ ⟨B.exec, B.bytes, B.returns, hml, findClass_of_methodNamed B.named, B.notSynchronized, (name_of_methodNamed B.named B.method).1, ht, hE.hts⟩ hsz hP hK (hD0.self (sz := sz)) hE hZ (fun q h => Or.inr (by rw [← hsz]; exact h)) hl
theorem cX_of (hy : plainName y.cls = true) (hn : (lg_sl Args).length ≤ maxL)
    (body : ∀ (p : Program) (e : Env) (s : State) (m : MethodId) (below : List Frame) (meth : Method) (c : Code) (ls : Array Slot), cF p m meth c cc maxL ret s y Args [] → s.heap.size = sz → va_P D vwCl ws s.heap → va_K D vwCl tys s → va_D (va_A ws sz) ws → ev s → zz (va_A ws sz) s s.heap → (∀ q, s.heap.size ≤ q → va_A ws sz q) → lv_has ls maxL (lv_args 0 Args) →
      W p l e (rmK fr lc mc ms) s m Args.toArray below meth c s.heap [] 0 0 (vx_MQ below (aft D ws sz post w1 t1) (thr ws sz X) Args.toArray s mc ms (va_A ws sz)) (F0 m 0 ls [])) : cX l y (.code y cc maxL ret) fr lc mc ms Args D tys ws sz post w1 t1 X := by
  refine vx_ofW (cc := cc) (maxL := maxL) (ret := ret) hy rfl ?_
  intro p e s m args below meth c s₁ B hml ht0 hv
  obtain ⟨rfl, hsz, hP, hK, hD0, hE, hZ⟩ := hv
  have hl := lv_entry Args (n := maxL) hn
  rw [lg_entry_eq]
  have ht : c.exceptionTable.toList = [] := by
    cases h : c.exceptionTable.toList with
    | nil => rfl
    | cons x r => exact (ht0 x (by rw [h]; exact List.mem_cons_self)).elim
  exact body p e s m below meth c _ ⟨B.exec, B.bytes, B.returns, hml, findClass_of_methodNamed B.named, B.notSynchronized, (name_of_methodNamed B.named B.method).1, ht, hE.hts⟩ hsz hP hK (hD0.self (sz := sz)) hE hZ (fun q h => Or.inr (by rw [← hsz]; exact h)) hl
/-- a method with a table of its own -/
theorem cM_ofW {hh : List (Nat × Nat × Nat × Nat)} (hy : plainName y.cls = true) (hn : (lg_sl Args).length ≤ maxL)
    (body : ∀ (p : Program) (e : Env) (s : State) (m : MethodId) (below : List Frame) (meth : Method) (c : Code) (ls : Array Slot), cF p m meth c cc maxL ret s y Args (tableOf hh) → s.heap.size = sz → va_P D vwCl ws s.heap → va_K D vwCl tys s → va_D (va_A ws sz) ws → ev s → zz (va_A ws sz) s s.heap → (∀ q, s.heap.size ≤ q → va_A ws sz q) → lv_has ls maxL (lv_args 0 Args) →
      W p l e (rmK fr lc mc ms) s m Args.toArray below meth c s.heap [] 0 0 (MQ below (aft D ws sz post w1 t1) Args.toArray s mc ms (va_A ws sz)) (F0 m 0 ls [])) : cM l y (.codeWith y cc maxL ret hh) fr lc mc ms Args D tys ws sz post w1 t1 := by
  refine va_MetW (cc := cc) (maxL := maxL) (ret := ret) (hh := hh) hy rfl ?_
  intro p e s m args below meth c s₁ B hml hv
  obtain ⟨rfl, hsz, hP, hK, hD0, hE, hZ⟩ := hv
  have hl := lv_entry Args (n := maxL) hn
  rw [lg_entry_eq]
  have ht : c.exceptionTable.toList = tableOf hh := vx_table (x := y) B (atoms_spec (ws := [Cond.codeWith y cc maxL ret hh]) B.pre _ List.mem_cons_self)
  exact body p e s m below meth c _ ⟨B.exec, B.bytes, B.returns, hml, findClass_of_methodNamed B.named, B.notSynchronized, (name_of_methodNamed B.named B.method).1, ht, hE.hts⟩ hsz hP hK (hD0.self (sz := sz)) hE hZ (fun q h => Or.inr (by rw [← hsz]; exact h)) hl
end CB
section CR
variable {p : Program} {l : Launch} {e : Env} {R : Room} {s : State} {m : MethodId} {args : Array Value} {below : List Frame} {meth : Method} {c : Code} {H : Heap} {locs : List Loc} {cells slots : Nat} {Q : State → Prop}
variable {cc : ByteArray} {pc : Nat} {ls : Array Slot} {D : va_G} {ws : va_W} {sz mc ms : Nat} {S : Type} {post : Option Value → S → Prop} {w1 : S → va_W} {t1 : S → tyL} {X : String → Prop}
/-- a number on top, said otherwise -/
theorem ck_top {x y : Int32} {rest : List Value} (h : x = y) (k : W p l e R s m args below meth c H locs cells slots Q (F0 m pc ls (.int y :: rest))) : W p l e R s m args below meth c H locs cells slots Q (F0 m pc ls (.int x :: rest)) := by rw [h]; exact k
theorem ck_iret {ty : FieldType} {v : Int32} (u : S) (hx : p.tables.exec = Jvm.exec) (hb : c.code = cc) (hr : meth.sig.returnType = some ty) (hn : narrow ty (.int v) = .int v) (hlocks : meth.locks = false) (hp : post (some (.int v)) u) (hP : va_P D vwCl (w1 u) H) (hK : va_K D vwCl (t1 u) s) (hD : va_D (va_A ws sz) (w1 u)) (hS : va_S (va_A ws sz) s.heap H locs) (hc : cells ≤ mc) (hs : slots ≤ ms)
    (hd : decode cc pc = .ok (.ireturn, 1)) : W p l e R s m args below meth c H locs cells slots (MQ below (aft D ws sz post w1 t1) args s mc ms (va_A ws sz)) (F0 m pc ls [.int v]) :=
  W.widen hc hs (W.zret hx hb hr hn (fun t ht hW => ⟨⟨_, u, rfl, hp, by rw [ht]; exact hP, va_K.moved hW.alike hK, hD⟩, hS.F ht⟩) hS.2.2 hd hlocks)
theorem ck_vret (u : S) (hx : p.tables.exec = Jvm.exec) (hb : c.code = cc) (hr : meth.sig.returnType = none) (hlocks : meth.locks = false) (hp : post none u) (hP : va_P D vwCl (w1 u) H) (hK : va_K D vwCl (t1 u) s) (hD : va_D (va_A ws sz) (w1 u)) (hS : va_S (va_A ws sz) s.heap H locs) (hc : cells ≤ mc) (hs : slots ≤ ms)
    (hd : decode cc pc = .ok (.return_, 1)) : W p l e R s m args below meth c H locs cells slots (MQ below (aft D ws sz post w1 t1) args s mc ms (va_A ws sz)) (F0 m pc ls []) :=
  W.widen hc hs (W.vret hx hb hr (fun t ht hW => ⟨⟨_, u, rfl, hp, by rw [ht]; exact hP, va_K.moved hW.alike hK, hD⟩, hS.F ht⟩) hS.2.2 hd hlocks)
theorem ck_aret {rt : FieldType} {v : Value} (u : S) (hx : p.tables.exec = Jvm.exec) (hb : c.code = cc) (hr : meth.sig.returnType = some rt) (hrt : (∃ n, rt = .object n) ∨ ∃ t, rt = .array t) (hv : v = .null ∨ ∃ a, v = .ref a) (hlocks : meth.locks = false) (hp : post (some v) u) (hP : va_P D vwCl (w1 u) H) (hK : va_K D vwCl (t1 u) s) (hD : va_D (va_A ws sz) (w1 u)) (hS : va_S (va_A ws sz) s.heap H locs) (hc : cells ≤ mc) (hs : slots ≤ ms)
    (hd : decode cc pc = .ok (.areturn, 1)) : W p l e R s m args below meth c H locs cells slots (MQ below (aft D ws sz post w1 t1) args s mc ms (va_A ws sz)) (F0 m pc ls [v]) :=
  W.widen hc hs (W.aret hx hb hr hrt hv (fun t ht hW => ⟨⟨_, u, rfl, hp, by rw [ht]; exact hP, va_K.moved hW.alike hK, hD⟩, hS.F ht⟩) hS.2.2 hd hlocks)
end CR
section CC
variable {p : Program} {l : Launch} {e : Env} {R : Room} {s : State} {m : MethodId} {args : Array Value} {below : List Frame} {meth : Method} {c : Code} {H : Heap} {locs : List Loc} {cells slots : Nat} {Q : State → Prop}
variable {cc : ByteArray} {pc nL : Nat} {ls : Array Slot} {D : va_G} {mc ms : Nat} {S : Type} {post : Option Value → S → Prop} {w1 : S → va_W} {t1 : S → tyL} {X : String → Prop} {A0 : Nat → Prop} {ws wc wr : va_W} {tys tysc : tyL} {a : Array Value} {st0 rest : List Value}
theorem pre.of {tk : List Nat} (hP : va_P D vwCl ws H) (hD : va_D A0 ws) (hK : va_K D vwCl tys s) (hS : va_S A0 s.heap H locs) (hA : ∀ q, s.heap.size ≤ q → A0 q) (hE : ev s) (hZ : zz A0 s s.heap) (isC : List Nat) (hn : va_nd isC = true) (hC : isC.map (fun i => ws[i]?) = wc.map some) (hC2 : isC.filterMap (fun i => ws[i]?) = wc)
    (hT : tk.filterMap (fun i => tys[i]?) = tysc) : ∀ U : State, U.heap = H → s.WarmedH U.vm → pre D tysc wc H.size U := by
  intro U hU hW
  have hF := va_free (wc := wc) hD hS hA isC hC
  refine ⟨by rw [hU], by rw [hU]; exact hP.sub isC hC2, va_K.moved hW.alike (hK.sub tk hT), (hD.sub isC hn hC).weaken (fun _ _ _ _ => trivial), hE.warm hW, ?_⟩
  rw [hU]
  exact zz.moved hW.alike ((hZ.kept hS.2.1).narrow hF)
theorem ck_run (hr : va_Run p l e R s m args below meth c H locs cells slots mc ms (F0 m pc ls st0) rest (aft D wc H.size post w1 t1 a) (va_A wc H.size)) (hP : va_P D vwCl ws H) (hD : va_D A0 ws) (hK : va_K D vwCl tys s) (hS : va_S A0 s.heap H locs) (hA : ∀ q, s.heap.size ≤ q → A0 q)
    (isC isR : List Nat) (hC : isC.map (fun i => ws[i]?) = wc.map some) (hR : isR.map (fun i => ws[i]?) = wr.map some) (hn : va_nd isR = true) (hdis : ∀ i ∈ isR, i ∉ isC)
    (kk : ∀ (v : Option Value) (u : S) (H1 : Heap) (locs1 : List Loc), post v u → va_P D vwCl (wr ++ w1 u) H1 → va_D A0 (wr ++ w1 u) → va_K D vwCl (tys ++ t1 u) s → va_S A0 s.heap H1 locs1 → W p l e R s m args below meth c H1 locs1 (cells + mc) (slots + ms) Q (F0 m (pc + 3) ls (v.toList ++ rest))) :
    W p l e R s m args below meth c H locs cells slots Q (F0 m pc ls st0) := by
  intro T hT X'
  obtain ⟨v, st₀, t, T', L, h0, X', hL, e1, e2, ⟨⟨v', u, hv, hp, hP1, hK1, hD1⟩, hF⟩, st⟩ := hr T hT X'
  cases hv
  have hFr := va_free (wc := wc) hD hS hA isC hC
  obtain ⟨k1, k2, k3⟩ := vx_keep h0 e1 hS (fun q _ h => hFr q h) hFr hL hF
  rw [← e1] at hP1
  obtain ⟨jP, jD⟩ := va_join hP hD isC isR hC hR hn hdis k2 hFr hP1 hD1
  have jK : va_K D vwCl (t1 u) s := va_K.moved (by rw [← e2]; exact X'.warmed.alike.symm) hK1
  obtain ⟨t2, a1, b1⟩ := kk v u T'.heap (locs ++ L) hp jP jD (hK.app jK) k3 T' rfl X'
  exact ⟨t2, st t2 a1, b1⟩
/-- the same of a callee that may throw -/
theorem cx_run (hr : vx_Run p l e R s m args below meth c H locs cells slots mc ms (F0 m pc ls st0) rest (aft D wc H.size post w1 t1 a) (thr wc H.size X) (va_A wc H.size)) (hP : va_P D vwCl ws H) (hD : va_D A0 ws) (hK : va_K D vwCl tys s) (hS : va_S A0 s.heap H locs) (hA : ∀ q, s.heap.size ≤ q → A0 q)
    (isC isR : List Nat) (hC : isC.map (fun i => ws[i]?) = wc.map some) (hR : isR.map (fun i => ws[i]?) = wr.map some) (hn : va_nd isR = true) (hdis : ∀ i ∈ isR, i ∉ isC)
    (kx : ∀ (E : String) (ce : Cell) (q9 : Addr) (H1 : Heap) (locs1 : List Loc), X E → va_P D vwCl wr H1 → va_D A0 wr → va_S A0 s.heap H1 locs1 → H1[q9]? = some ce → ce.vm = .none → s.vm.findClass E = some ce.cls → vx_W p l e R s m args below meth c H1 locs1 (cells + mc) (slots + ms) Q (F0 m pc ls rest) q9)
    (kk : ∀ (v : Option Value) (u : S) (H1 : Heap) (locs1 : List Loc), post v u → va_P D vwCl (wr ++ w1 u) H1 → va_D A0 (wr ++ w1 u) → va_K D vwCl (tys ++ t1 u) s → va_S A0 s.heap H1 locs1 → W p l e R s m args below meth c H1 locs1 (cells + mc) (slots + ms) Q (F0 m (pc + 3) ls (v.toList ++ rest))) :
    W p l e R s m args below meth c H locs cells slots Q (F0 m pc ls st0) := by
  intro T hT X0
  have hFr := va_free (wc := wc) hD hS hA isC hC
  rcases hr T hT X0 with ⟨v, st₀, t, T', L, h0, X', hL, e1, e2, ⟨⟨v', u, hv, hp, hP1, hK1, hD1⟩, hF⟩, st⟩ | ⟨q, st₀, t, T', L, E, ce, h0, X', hL, e1, e2, ⟨hxE, hF⟩, hce, hcv, hcl, st⟩
  · cases hv
    obtain ⟨k1, k2, k3⟩ := vx_keep h0 e1 hS (fun q _ h => hFr q h) hFr hL hF
    rw [← e1] at hP1
    obtain ⟨jP, jD⟩ := va_join hP hD isC isR hC hR hn hdis k2 hFr hP1 hD1
    have jK : va_K D vwCl (t1 u) s := va_K.moved (by rw [← e2]; exact X'.warmed.alike.symm) hK1
    obtain ⟨t2, a1, b1⟩ := kk v u T'.heap (locs ++ L) hp jP jD (hK.app jK) k3 T' rfl X'
    exact ⟨t2, st t2 a1, b1⟩
  · obtain ⟨k1, k2, k3⟩ := vx_keep h0 e1 hS (fun q _ h => hFr q h) hFr hL hF
    obtain ⟨jP, jD⟩ := va_join (w1 := []) hP hD isC isR hC hR hn hdis k2 hFr (fun k q h => by simp at h) ⟨fun i j p q h => by simp at h, fun k q h => by simp at h⟩
    rw [List.append_nil] at jP jD
    obtain ⟨t2, a1, b1⟩ := kx E ce q T'.heap (locs ++ L) hxE jP jD k3 (by rw [e1]; exact hce) hcv hcl T' rfl X'
    exact ⟨t2, st.trans a1, b1⟩
variable {own C : String} {index n maxL' fr lc : Nat} {y : MethodName} {bytes : ByteArray} {ret' : Option FieldType} {b : Nat} {As : List Value}
/-- the words of a call, out of the tables -/
theorem cw_V (hts : ∀ w ∈ lw_G, w.before args s = true) (t0 : Cond.methodLink own index y ∈ lw_G) (t1 : Cond.instanceMethod y ∈ lw_G) (t2 : Cond.selects C y y ∈ lw_G) (t3 : Cond.initialized C ∈ lw_G) (t4 : Cond.code y bytes maxL' ret' ∈ lw_G)
    (hd : y.cls = C ∧ y.cls ≠ "java/lang/invoke/MethodHandle" ∧ y.cls ≠ "java/lang/invoke/VarHandle" ∧ (parseMethodDescriptor y.desc).map (fun d => d.parameters.length) = some n) (hR : fr + 1 ≤ R.frames ∧ 8 + (maxL' + 11) + lc ≤ R.locals) :
    CallW R s args own C index y bytes maxL' ret' [Cond.code y bytes maxL' ret'] (rmK fr lc mc ms) mc ms n := by
  refine cwV n hts (fun w hw => ?_) rfl rfl rfl hd hR
  have h : w ∈ lw_G := by
    simp only [wsV, List.cons_append, List.nil_append, List.mem_cons, List.not_mem_nil, or_false] at hw
    rcases hw with h | h | h | h | h <;> (rw [h]; assumption)
  exact ⟨h, G_good h⟩
theorem cw_S (hts : ∀ w ∈ lw_G, w.before args s = true) (t0 : Cond.methodLink own index y ∈ lw_G) (t1 : Cond.static y ∈ lw_G) (t3 : Cond.initialized y.cls ∈ lw_G) (t4 : Cond.code y bytes maxL' ret' ∈ lw_G)
    (hd : y.cls ≠ "java/lang/invoke/MethodHandle" ∧ y.cls ≠ "java/lang/invoke/VarHandle" ∧ (parseMethodDescriptor y.desc).map (fun d => d.parameters.length) = some n) (hR : fr + 1 ≤ R.frames ∧ 8 + (maxL' + 11) + lc ≤ R.locals) :
    CallB R s args own index y bytes maxL' ret' [Cond.code y bytes maxL' ret'] (rmK fr lc mc ms) mc ms n ∧ (Cond.static y).before args s = true := by
  refine va_cwS n hts (fun w hw => ?_) rfl rfl rfl hd hR
  have h : w ∈ lw_G := by
    simp only [va_wsS, List.cons_append, List.nil_append, List.mem_cons, List.not_mem_nil, or_false] at hw
    rcases hw with h | h | h | h <;> (rw [h]; assumption)
  exact ⟨h, G_good h⟩
theorem cw_SW {hh : List (Nat × Nat × Nat × Nat)} (hts : ∀ w ∈ lw_G, w.before args s = true) (t0 : Cond.methodLink own index y ∈ lw_G) (t1 : Cond.static y ∈ lw_G) (t3 : Cond.initialized y.cls ∈ lw_G) (t4 : Cond.codeWith y bytes maxL' ret' hh ∈ lw_G)
    (hd : y.cls ≠ "java/lang/invoke/MethodHandle" ∧ y.cls ≠ "java/lang/invoke/VarHandle" ∧ (parseMethodDescriptor y.desc).map (fun d => d.parameters.length) = some n) (hR : fr + 1 ≤ R.frames ∧ 8 + (maxL' + 11) + lc ≤ R.locals) :
    vx_CSW R s args own index y bytes maxL' ret' hh [Cond.codeWith y bytes maxL' ret' hh] (rmK fr lc mc ms) mc ms n := by
  refine vx_cwSW n hts (fun w hw => ?_) rfl rfl rfl hd hR
  have h : w ∈ lw_G := by
    simp only [va_wsS, List.cons_append, List.nil_append, List.mem_cons, List.not_mem_nil, or_false] at hw
    rcases hw with h | h | h | h <;> (rw [h]; assumption)
  exact ⟨h, G_good h⟩
theorem cw_I (hts : ∀ w ∈ lw_G, w.before args s = true) (t0 : Cond.methodLink own index y ∈ lw_G) (t1 : Cond.instanceMethod y ∈ lw_G) (t3 : Cond.initialized y.cls ∈ lw_G) (t4 : Cond.code y bytes maxL' none ∈ lw_G) (hy1 : y.name = "<init>")
    (hd : y.cls ≠ "java/lang/invoke/MethodHandle" ∧ y.cls ≠ "java/lang/invoke/VarHandle" ∧ (parseMethodDescriptor y.desc).map (fun d => d.parameters.length) = some n) (hR : fr + 1 ≤ R.frames ∧ 8 + (maxL' + 11) + lc ≤ R.locals) :
    CallB R s args own index y bytes maxL' none [Cond.code y bytes maxL' none] (rmK fr lc mc ms) mc ms n ∧ y.name = "<init>" ∧ (Cond.instanceMethod y).before args s = true := by
  refine cwI n hts (fun w hw => ?_) rfl rfl rfl (hts _ t3) (hts _ t0) (hts _ t1) hy1 hd hR
  have h : w ∈ lw_G := by
    simp only [List.mem_cons, List.not_mem_nil, or_false] at hw
    rw [hw]; exact t4
  exact ⟨h, G_good h⟩
end CC
