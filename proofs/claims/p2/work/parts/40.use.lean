/-! Contracts that tell how much of the room a call has used: what it may need is asked before it, what it used is told behind it. -/
def nsl (H H1 : Heap) : Nat := ((H1.toList.drop H.size).map (·.slots.size)).sum
def used (H H1 : Heap) (k n : Nat) : Prop := H.size ≤ H1.size ∧ H1.size ≤ H.size + k ∧ nsl H H1 ≤ n ∧ ∀ (a : Nat) (c : Cell), H[a]? = some c → ∃ c' : Cell, H1[a]? = some c' ∧ c'.slots.size = c.slots.size
theorem used_of {s t : State} {o : Outcome} {L : List Loc} {k n : Nat} (h : FrameEnd s o t L k n) : used s.heap t.heap k n := by
  obtain ⟨_, _, h1, h2, h3, h4, h5, h6⟩ := h
  exact ⟨h2, h3, h5, fun a c e => by obtain ⟨c', e1, e2, e3, e4⟩ := h6 a c e; exact ⟨c', e1, e3⟩⟩
theorem nsl_split {H H1 : Heap} (h1 : H.size ≤ H1.size) (hk : ∀ (a : Nat) (c : Cell), H[a]? = some c → ∃ c' : Cell, H1[a]? = some c' ∧ c'.slots.size = c.slots.size) : H1.toList.map (·.slots.size) = H.toList.map (·.slots.size) ++ (H1.toList.drop H.size).map (·.slots.size) := by
  apply List.ext_getElem?
  intro i
  by_cases c : i < H.size
  · rw [List.getElem?_append_left (by rw [List.length_map]; exact c), List.getElem?_map, List.getElem?_map]
    have e : H[i]? = some H[i] := Array.getElem?_eq_getElem c
    obtain ⟨c', e1, e2⟩ := hk i _ e
    rw [← Array.getElem?_toList] at e e1
    rw [e, e1]
    exact congrArg some e2
  · rw [List.getElem?_append_right (by rw [List.length_map]; exact Nat.le_of_not_lt c), List.getElem?_map, List.getElem?_map, List.length_map, List.getElem?_drop]
    congr 2
    have : H.toList.length = H.size := Array.length_toList
    omega
theorem nsl_add {s H H1 : Heap} (h0 : s.size ≤ H.size) (h1 : H.size ≤ H1.size) (hk : ∀ (a : Nat) (c : Cell), H[a]? = some c → ∃ c' : Cell, H1[a]? = some c' ∧ c'.slots.size = c.slots.size) : nsl s H1 = nsl s H + nsl H H1 := by
  unfold nsl
  simp only [List.map_drop]
  have e := nsl_split h1 hk
  rw [List.map_drop] at e
  have e2 : List.drop s.size (H1.toList.map (·.slots.size)) = List.drop s.size (H.toList.map (·.slots.size)) ++ List.drop H.size (H1.toList.map (·.slots.size)) := by
    conv => lhs; rw [e]
    rw [List.drop_append_of_le_length (by rw [List.length_map]; exact h0)]
  rw [e2, List.sum_append]
section US
variable {p : Program} {l : Launch} {e : Env} {R : Room} {s : State} {m : MethodId} {args : Array Value} {below : List Frame} {meth : Method} {c : Code} {H : Heap} {locs : List Loc} {cells slots : Nat} {Q : State → Prop}
theorem stand_used {T T' : State} {locs' : List Loc} {cells' slots' k n : Nat} (X : Stand p l e R s m args below meth c T locs cells slots) (X' : Stand p l e R s m args below meth c T' locs' cells' slots') (hu : used T.heap T'.heap k n) : Stand p l e R s m args below meth c T' locs' (cells + k) (slots + n) := by
  obtain ⟨u1, u2, u3, u4⟩ := hu
  have g1 : s.heap.size ≤ T.heap.size := X.same.2.1
  have g2 : T.heap.size ≤ s.heap.size + cells := X.same.2.2.1
  have g3 : nsl s.heap T.heap ≤ slots := X.same.2.2.2.2.1
  have g4 := nsl_add g1 u1 u4
  refine { X' with same := ⟨X'.same.1, X'.same.2.1, ?_, X'.same.2.2.2.1, ?_, X'.same.2.2.2.2.2⟩ }
  · show T'.heap.size ≤ s.heap.size + (cells + k)
    omega
  · show nsl s.heap T'.heap ≤ slots + n
    omega
end US
def aftU (D : va_G) (ws : va_W) (sz : Nat) {S : Type} (post : Option Value → S → Prop) (w1 : S → va_W) (t1 : S → tyL) (uc us : S → Nat) : Array Value → State → Outcome → State → Prop := fun _ st o t =>
  (∃ (v : Option Value) (u : S), o = .returned v ∧ post v u ∧ va_P D vwCl (w1 u) t.heap ∧ va_K D vwCl (t1 u) t ∧ va_D (va_A ws sz) (w1 u) ∧ used st.heap t.heap (uc u) (us u)) ∧ va_F (va_A ws sz) st t
def cU (l : Launch) (y : MethodName) (wd : Cond) (fr lc mc ms : Nat) (Args : List Value) (D : va_G) (tys : tyL) (ws : va_W) (sz : Nat) {S : Type} (post : Option Value → S → Prop) (w1 : S → va_W) (t1 : S → tyL) (uc us : S → Nat) : Prop :=
  Met l y [wd] (rmK fr lc mc ms) (va_Pc Args (pre D tys ws sz)) (aftU D ws sz post w1 t1 uc us) mc ms (va_A ws sz)
section CB9
variable {l : Launch} {y : MethodName} {cc : ByteArray} {maxL fr lc mc ms sz : Nat} {ret : Option FieldType} {Args : List Value} {D : va_G} {tys : tyL} {ws : va_W} {S : Type} {post : Option Value → S → Prop} {w1 : S → va_W} {t1 : S → tyL} {uc us : S → Nat}
theorem cU_of (hy : plainName y.cls = true) (hn : (lg_sl Args).length ≤ maxL)
    (body : ∀ (p : Program) (e : Env) (s : State) (m : MethodId) (below : List Frame) (meth : Method) (c : Code) (ls : Array Slot), cF p m meth c cc maxL ret s y Args [] → s.heap.size = sz → va_P D vwCl ws s.heap → va_K D vwCl tys s → va_D (va_A ws sz) ws → ev s → zz (va_A ws sz) s s.heap → (∀ q, s.heap.size ≤ q → va_A ws sz q) → lv_has ls maxL (lv_args 0 Args) →
      W p l e (rmK fr lc mc ms) s m Args.toArray below meth c s.heap [] 0 0 (MQ below (aftU D ws sz post w1 t1 uc us) Args.toArray s mc ms (va_A ws sz)) (F0 m 0 ls [])) : cU l y (.code y cc maxL ret) fr lc mc ms Args D tys ws sz post w1 t1 uc us := by
  refine Met.ofW (cc := cc) (maxL := maxL) (ret := ret) hy rfl ?_
  intro p e s m args below meth c s₁ B hml hv
  obtain ⟨rfl, hsz, hP, hK, hD0, hE, hZ⟩ := hv
  have hl := lv_entry Args (n := maxL) hn
  rw [lg_entry_eq]
  have ht : c.exceptionTable.toList = [] := by
    obtain ⟨meth9, c9, h1, h2, -, -, -, -, h7, -⟩ := Cond.code_spec B.named (atoms_spec (ws := [Cond.code y cc maxL ret]) B.pre _ List.mem_cons_self)
    cases Option.some.inj (h1.symm.trans B.method)
    cases Option.some.inj (h2.symm.trans (Stand.of_body B).code)
    rw [Array.isEmpty_iff.mp h7]
  exact body p e s m below meth c _ ⟨B.exec, B.bytes, B.returns, hml, findClass_of_methodNamed B.named, B.notSynchronized, (name_of_methodNamed B.named B.method).1, ht, hE.hts⟩ hsz hP hK (hD0.self (sz := sz)) hE hZ (fun q h => Or.inr (by rw [← hsz]; exact h)) hl
end CB9
section CR9
variable {p : Program} {l : Launch} {e : Env} {R : Room} {s : State} {m : MethodId} {args : Array Value} {below : List Frame} {meth : Method} {c : Code} {H : Heap} {locs : List Loc} {cells slots : Nat} {Q : State → Prop}
variable {cc : ByteArray} {pc : Nat} {ls : Array Slot} {D : va_G} {ws : va_W} {sz mc ms : Nat} {S : Type} {post : Option Value → S → Prop} {w1 : S → va_W} {t1 : S → tyL} {uc us : S → Nat}
theorem fe_mono {st t : State} {o : Outcome} {L : List Loc} {k n k' n' : Nat} (h : FrameEnd st o t L k n) (h1 : k ≤ k') (h2 : n ≤ n') : FrameEnd st o t L k' n' := ⟨h.1, h.2.1, h.2.2.mono h1 h2⟩
theorem ck_iretU {ty : FieldType} {v : Int32} (u : S) (hx : p.tables.exec = Jvm.exec) (hb : c.code = cc) (hr : meth.sig.returnType = some ty) (hn : narrow ty (.int v) = .int v) (hlocks : meth.locks = false) (hp : post (some (.int v)) u) (hP : va_P D vwCl (w1 u) H) (hK : va_K D vwCl (t1 u) s) (hD : va_D (va_A ws sz) (w1 u)) (hS : va_S (va_A ws sz) s.heap H locs) (hc : cells ≤ uc u) (hs : slots ≤ us u) (hcm : uc u ≤ mc) (hsm : us u ≤ ms)
    (hd : decode cc pc = .ok (.ireturn, 1)) : W p l e R s m args below meth c H locs cells slots (MQ below (aftU D ws sz post w1 t1 uc us) args s mc ms (va_A ws sz)) (F0 m pc ls [.int v]) := by
  intro T hT X
  obtain ⟨t, st, o, h1, h2, ⟨h3, h6, h7⟩, L, h4, h5⟩ := W.widen hc hs (W.zret (Qc := fun _ _ o t => o = .returned (some (.int v)) ∧ t.heap = H ∧ s.WarmedH t.vm) (free := va_A ws sz) hx hb hr hn (fun t ht hW => ⟨rfl, ht, hW⟩) hS.2.2 hd hlocks) T hT X
  exact ⟨t, st, o, h1, h2, ⟨⟨_, u, h3, hp, by rw [h6]; exact hP, va_K.moved h7.alike hK, hD, used_of h4⟩, hS.F h6⟩, L, fe_mono h4 hcm hsm, h5⟩
theorem ck_vretU (u : S) (hx : p.tables.exec = Jvm.exec) (hb : c.code = cc) (hr : meth.sig.returnType = none) (hlocks : meth.locks = false) (hp : post none u) (hP : va_P D vwCl (w1 u) H) (hK : va_K D vwCl (t1 u) s) (hD : va_D (va_A ws sz) (w1 u)) (hS : va_S (va_A ws sz) s.heap H locs) (hc : cells ≤ uc u) (hs : slots ≤ us u) (hcm : uc u ≤ mc) (hsm : us u ≤ ms)
    (hd : decode cc pc = .ok (.return_, 1)) : W p l e R s m args below meth c H locs cells slots (MQ below (aftU D ws sz post w1 t1 uc us) args s mc ms (va_A ws sz)) (F0 m pc ls []) := by
  intro T hT X
  obtain ⟨t, st, o, h1, h2, ⟨h3, h6, h7⟩, L, h4, h5⟩ := W.widen hc hs (W.vret (Qc := fun _ _ o t => o = .returned none ∧ t.heap = H ∧ s.WarmedH t.vm) (free := va_A ws sz) hx hb hr (fun t ht hW => ⟨rfl, ht, hW⟩) hS.2.2 hd hlocks) T hT X
  exact ⟨t, st, o, h1, h2, ⟨⟨_, u, h3, hp, by rw [h6]; exact hP, va_K.moved h7.alike hK, hD, used_of h4⟩, hS.F h6⟩, L, fe_mono h4 hcm hsm, h5⟩
theorem ck_aretU {rt : FieldType} {v : Value} (u : S) (hx : p.tables.exec = Jvm.exec) (hb : c.code = cc) (hr : meth.sig.returnType = some rt) (hrt : (∃ n, rt = .object n) ∨ ∃ t, rt = .array t) (hv : v = .null ∨ ∃ a, v = .ref a) (hlocks : meth.locks = false) (hp : post (some v) u) (hP : va_P D vwCl (w1 u) H) (hK : va_K D vwCl (t1 u) s) (hD : va_D (va_A ws sz) (w1 u)) (hS : va_S (va_A ws sz) s.heap H locs) (hc : cells ≤ uc u) (hs : slots ≤ us u) (hcm : uc u ≤ mc) (hsm : us u ≤ ms)
    (hd : decode cc pc = .ok (.areturn, 1)) : W p l e R s m args below meth c H locs cells slots (MQ below (aftU D ws sz post w1 t1 uc us) args s mc ms (va_A ws sz)) (F0 m pc ls [v]) := by
  intro T hT X
  obtain ⟨t, st, o, h1, h2, ⟨h3, h6, h7⟩, L, h4, h5⟩ := W.widen hc hs (W.aret (Qc := fun _ _ o t => o = .returned (some v) ∧ t.heap = H ∧ s.WarmedH t.vm) (free := va_A ws sz) hx hb hr hrt hv (fun t ht hW => ⟨rfl, ht, hW⟩) hS.2.2 hd hlocks) T hT X
  exact ⟨t, st, o, h1, h2, ⟨⟨_, u, h3, hp, by rw [h6]; exact hP, va_K.moved h7.alike hK, hD, used_of h4⟩, hS.F h6⟩, L, fe_mono h4 hcm hsm, h5⟩
end CR9
section CC9
variable {p : Program} {l : Launch} {e : Env} {R : Room} {s : State} {m : MethodId} {args : Array Value} {below : List Frame} {meth : Method} {c : Code} {H : Heap} {locs : List Loc} {cells slots : Nat} {Q : State → Prop}
variable {pc : Nat} {ls : Array Slot} {D : va_G} {mc ms : Nat} {S : Type} {post : Option Value → S → Prop} {w1 : S → va_W} {t1 : S → tyL} {uc us : S → Nat} {A0 : Nat → Prop} {ws wc wr Xc cx pl : va_W} {tys : tyL} {a : Array Value} {st0 rest : List Value}
theorem ck_runU (hr : va_Run p l e R s m args below meth c H locs cells slots mc ms (F0 m pc ls st0) rest (aftU D wc H.size post w1 t1 uc us a) (va_A wc H.size)) (hP : va_P D vwCl ws H) (hD : va_D A0 ws) (hK : va_K D vwCl tys s) (hS : va_S A0 s.heap H locs) (hA : ∀ q, s.heap.size ≤ q → A0 q)
    (isC isR : List Nat) (hC : isC.map (fun i => ws[i]?) = wc.map some) (hR : isR.map (fun i => ws[i]?) = wr.map some) (hn : va_nd isR = true) (hdis : ∀ i ∈ isR, i ∉ isC)
    (kk : ∀ (v : Option Value) (u : S) (H1 : Heap) (locs1 : List Loc), post v u → va_P D vwCl (wr ++ w1 u) H1 → va_D A0 (wr ++ w1 u) → va_K D vwCl (tys ++ t1 u) s → va_S A0 s.heap H1 locs1 → W p l e R s m args below meth c H1 locs1 (cells + uc u) (slots + us u) Q (F0 m (pc + 3) ls (v.toList ++ rest))) :
    W p l e R s m args below meth c H locs cells slots Q (F0 m pc ls st0) := by
  intro T hT X'
  obtain ⟨v, st₀, t, T', L, h0, X2, hL, e1, e2, ⟨⟨v', u, hv, hp, hP1, hK1, hD1, hu⟩, hF⟩, st⟩ := hr T hT X'
  cases hv
  have hFr := va_free (wc := wc) hD hS hA isC hC
  obtain ⟨k1, k2, k3⟩ := vx_keep h0 e1 hS (fun q _ h => hFr q h) hFr hL hF
  rw [← e1] at hP1
  obtain ⟨jP, jD⟩ := va_join hP hD isC isR hC hR hn hdis k2 hFr hP1 hD1
  have jK : va_K D vwCl (t1 u) s := va_K.moved (by rw [← e2]; exact X2.warmed.alike.symm) hK1
  obtain ⟨t2, a1, b1⟩ := kk v u T'.heap (locs ++ L) hp jP jD (hK.app jK) k3 T' rfl (stand_used X' X2 (by rw [hT, e1, ← h0]; exact hu))
  exact ⟨t2, st t2 a1, b1⟩
theorem ck_runUQ (hr : va_Run p l e R s m args below meth c H locs cells slots mc ms (F0 m pc ls st0) rest (aftU D cx H.size post w1 t1 uc us a) (va_A cx H.size)) (hP : va_P D vwCl (Xc ++ pl) H) (hD : va_D A0 (Xc ++ pl)) (hK : va_K D vwCl tys s) (hS : va_S A0 s.heap H locs) (hA : ∀ q, s.heap.size ≤ q → A0 q)
    (isC isR : List Nat) (hC : isC.map (fun i => Xc[i]?) = cx.map some) (hR : isR.map (fun i => Xc[i]?) = wr.map some) (hn : va_nd isR = true) (hdis : ∀ i ∈ isR, i ∉ isC)
    (kk : ∀ (v : Option Value) (u : S) (H1 : Heap) (locs1 : List Loc), post v u → va_P D vwCl ((wr ++ w1 u) ++ pl) H1 → va_D A0 ((wr ++ w1 u) ++ pl) → va_K D vwCl (tys ++ t1 u) s → va_S A0 s.heap H1 locs1 → W p l e R s m args below meth c H1 locs1 (cells + uc u) (slots + us u) Q (F0 m (pc + 3) ls (v.toList ++ rest))) :
    W p l e R s m args below meth c H locs cells slots Q (F0 m pc ls st0) := by
  intro T hT X'
  obtain ⟨v, st₀, t, T', L, h0, X2, hL, e1, e2, ⟨⟨v', u, hv, hp, hP1, hK1, hD1, hu⟩, hF⟩, st⟩ := hr T hT X'
  cases hv
  have hFr := va_free (wc := cx) hD.left hS hA isC hC
  obtain ⟨k1, k2, k3⟩ := vx_keep h0 e1 hS (fun q _ h => hFr q h) hFr hL hF
  rw [← e1] at hP1
  obtain ⟨jP, jD⟩ := va_joinQ hP hD isC isR hC hR hn hdis k2 hFr hP1 hD1
  have jK : va_K D vwCl (t1 u) s := va_K.moved (by rw [← e2]; exact X2.warmed.alike.symm) hK1
  obtain ⟨t2, a1, b1⟩ := kk v u T'.heap (locs ++ L) hp jP jD (hK.app jK) k3 T' rfl (stand_used X' X2 (by rw [hT, e1, ← h0]; exact hu))
  exact ⟨t2, st t2 a1, b1⟩
end CC9

