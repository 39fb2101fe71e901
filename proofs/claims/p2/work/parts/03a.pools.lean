/-! Calls where the caller's world ends in a pool: the callee has it too (P), or has none (Q). -/
theorem va_P.left {D : va_G} {cl : List vw_C} {X pl : va_W} {H : Heap} (h : va_P D cl (X ++ pl) H) : va_P D cl X H := fun k q hk => h k q (by rw [List.getElem?_append_left (List.getElem?_eq_some_iff.mp hk).1]; exact hk)
theorem va_D.left {A : Nat → Prop} {X pl : va_W} (h : va_D A (X ++ pl)) : va_D A X := h.by id (fun k q hk => by show (X ++ pl)[k]? = some q; rw [List.getElem?_append_left (List.getElem?_eq_some_iff.mp hk).1]; exact hk) (fun _ _ _ _ e => e)
section CP
variable {p : Program} {l : Launch} {e : Env} {R : Room} {s : State} {m : MethodId} {args : Array Value} {below : List Frame} {meth : Method} {c : Code} {H : Heap} {locs : List Loc} {cells slots : Nat} {Q : State → Prop}
variable {cc : ByteArray} {pc nL : Nat} {ls : Array Slot} {D : va_G} {mc ms : Nat} {S : Type} {post : Option Value → S → Prop} {w1 rx pl1 : S → va_W} {t1 : S → tyL} {X : String → Prop} {A0 : Nat → Prop} {Xc cx wr pl : va_W} {tys tysc : tyL} {a : Array Value} {st0 rest : List Value}
theorem pre.ofP {tk : List Nat} (hP : va_P D vwCl (Xc ++ pl) H) (hD : va_D A0 (Xc ++ pl)) (hK : va_K D vwCl tys s) (hS : va_S A0 s.heap H locs) (hA : ∀ q, s.heap.size ≤ q → A0 q) (hE : ev s) (hZ : zz A0 s s.heap) (isC : List Nat) (hn : va_nd isC = true) (hC : isC.map (fun i => Xc[i]?) = cx.map some)
    (hT : tk.filterMap (fun i => tys[i]?) = tysc) : ∀ U : State, U.heap = H → s.WarmedH U.vm → pre D tysc (cx ++ pl) H.size U := by
  intro U hU hW
  have hF := va_freeP (cx := cx) hD hS hA isC hC
  refine ⟨by rw [hU], by rw [hU]; exact hP.part isC hC, va_K.moved hW.alike (hK.sub tk hT), (hD.part isC hn hC).weaken (fun _ _ _ _ => trivial), hE.warm hW, ?_⟩
  rw [hU]
  exact zz.moved hW.alike ((hZ.kept hS.2.1).narrow hF)
theorem ck_runP (hr : va_Run p l e R s m args below meth c H locs cells slots mc ms (F0 m pc ls st0) rest (aft D (cx ++ pl) H.size post w1 t1 a) (va_A (cx ++ pl) H.size)) (hP : va_P D vwCl (Xc ++ pl) H) (hD : va_D A0 (Xc ++ pl)) (hK : va_K D vwCl tys s) (hS : va_S A0 s.heap H locs) (hA : ∀ q, s.heap.size ≤ q → A0 q) (hw1 : ∀ u, w1 u = rx u ++ pl1 u)
    (isC isR : List Nat) (hC : isC.map (fun i => Xc[i]?) = cx.map some) (hR : isR.map (fun i => Xc[i]?) = wr.map some) (hn : va_nd isR = true) (hdis : ∀ i ∈ isR, i ∉ isC)
    (kk : ∀ (v : Option Value) (u : S) (H1 : Heap) (locs1 : List Loc), post v u → va_P D vwCl ((wr ++ rx u) ++ pl1 u) H1 → va_D A0 ((wr ++ rx u) ++ pl1 u) → va_K D vwCl (tys ++ t1 u) s → va_S A0 s.heap H1 locs1 → W p l e R s m args below meth c H1 locs1 (cells + mc) (slots + ms) Q (F0 m (pc + 3) ls (v.toList ++ rest))) :
    W p l e R s m args below meth c H locs cells slots Q (F0 m pc ls st0) := by
  intro T hT X'
  obtain ⟨v, st₀, t, T', L, h0, X', hL, e1, e2, ⟨⟨v', u, hv, hp, hP1, hK1, hD1⟩, hF⟩, st⟩ := hr T hT X'
  cases hv
  have hFr := va_freeP (cx := cx) hD hS hA isC hC
  obtain ⟨k1, k2, k3⟩ := vx_keep h0 e1 hS (fun q _ h => hFr q h) hFr hL hF
  rw [← e1] at hP1
  rw [hw1] at hP1 hD1
  obtain ⟨jP, jD⟩ := va_joinP hP hD isC isR hC hR hn hdis k2 hFr hP1 hD1
  have jK : va_K D vwCl (t1 u) s := va_K.moved (by rw [← e2]; exact X'.warmed.alike.symm) hK1
  obtain ⟨t2, a1, b1⟩ := kk v u T'.heap (locs ++ L) hp jP jD (hK.app jK) k3 T' rfl X'
  exact ⟨t2, st t2 a1, b1⟩
theorem ck_runQ (hr : va_Run p l e R s m args below meth c H locs cells slots mc ms (F0 m pc ls st0) rest (aft D cx H.size post w1 t1 a) (va_A cx H.size)) (hP : va_P D vwCl (Xc ++ pl) H) (hD : va_D A0 (Xc ++ pl)) (hK : va_K D vwCl tys s) (hS : va_S A0 s.heap H locs) (hA : ∀ q, s.heap.size ≤ q → A0 q)
    (isC isR : List Nat) (hC : isC.map (fun i => Xc[i]?) = cx.map some) (hR : isR.map (fun i => Xc[i]?) = wr.map some) (hn : va_nd isR = true) (hdis : ∀ i ∈ isR, i ∉ isC)
    (kk : ∀ (v : Option Value) (u : S) (H1 : Heap) (locs1 : List Loc), post v u → va_P D vwCl ((wr ++ w1 u) ++ pl) H1 → va_D A0 ((wr ++ w1 u) ++ pl) → va_K D vwCl (tys ++ t1 u) s → va_S A0 s.heap H1 locs1 → W p l e R s m args below meth c H1 locs1 (cells + mc) (slots + ms) Q (F0 m (pc + 3) ls (v.toList ++ rest))) :
    W p l e R s m args below meth c H locs cells slots Q (F0 m pc ls st0) := by
  intro T hT X'
  obtain ⟨v, st₀, t, T', L, h0, X', hL, e1, e2, ⟨⟨v', u, hv, hp, hP1, hK1, hD1⟩, hF⟩, st⟩ := hr T hT X'
  cases hv
  have hFr := va_free (wc := cx) hD.left hS hA isC hC
  obtain ⟨k1, k2, k3⟩ := vx_keep h0 e1 hS (fun q _ h => hFr q h) hFr hL hF
  rw [← e1] at hP1
  obtain ⟨jP, jD⟩ := va_joinQ hP hD isC isR hC hR hn hdis k2 hFr hP1 hD1
  have jK : va_K D vwCl (t1 u) s := va_K.moved (by rw [← e2]; exact X'.warmed.alike.symm) hK1
  obtain ⟨t2, a1, b1⟩ := kk v u T'.heap (locs ++ L) hp jP jD (hK.app jK) k3 T' rfl X'
  exact ⟨t2, st t2 a1, b1⟩
end CP
