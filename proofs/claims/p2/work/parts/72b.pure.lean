section MI2
variable {PM : Nat → Nat} {s s1 s3 : St} {r : Rt} {n a d x y t : Nat} {w k9 : Int32}
theorem nI_cl {a : Nat} (h : a ≤ 1000000) : (nI a).toNatClampNeg = a := nI_clamp (by omega)
theorem mI_supp {q : Nat} {f1 : Nat → Int32} (h : mI PM s r n a d) (hn : n ≤ 511) (hb1 : 1 ≤ r.2.2.2 1) (hw : ¬ r.2.2.1 7 (r.2.2.2 1 - 1) = 0) (ht : ntF s (nI t)) (hq : ∀ i, i < r.2.1 12 → f1 i = r.2.2.1 12 i) :
    mI PM s (sUp r.1 12 q, sUp r.2.1 12 (mx (r.2.2.2 3) (r.2.1 12)), sUp (sUp r.2.2.1 4 (upd (r.2.2.1 4) (r.2.2.2 1 - 1) (nI (bcs r (r.2.2.2 1 - 1) + 1)))) 12 (upd f1 (r.2.2.2 3) (nI t)), sUp r.2.2.2 3 (r.2.2.2 3 + 1)) (n + 1) a d := by
  obtain ⟨a1, b1, b2, b3, ⟨c1, c2, c3, c4⟩, ⟨l1, l2, l3, l4⟩, b6, b7, b8, b9⟩ := h
  have m4 := mx_1024 l4 (by omega)
  refine ⟨a1, b1, b2, b3, ⟨c1, c2, Nat.le_succ_of_le c3, Nat.succ_le_succ c4⟩, ⟨l1, l2, l3, ⟨m4.1, m4.2.1, m4.2.2.1⟩⟩, b6, fun b hb hwb => ?_, b8, fun i hi => ?_⟩
  · obtain ⟨g1, g2, g3, g4⟩ := b7 b hb hwb
    show r.2.2.1 6 b = nI (bwy r b) ∧ upd (r.2.2.1 4) (r.2.2.2 1 - 1) (nI (bcs r (r.2.2.2 1 - 1) + 1)) b = nI (upd (r.2.2.1 4) (r.2.2.2 1 - 1) (nI (bcs r (r.2.2.2 1 - 1) + 1)) b).toNatClampNeg ∧ bwy r b + (upd (r.2.2.1 4) (r.2.2.2 1 - 1) (nI (bcs r (r.2.2.2 1 - 1) + 1)) b).toNatClampNeg ≤ r.2.2.2 3 + 1 ∧ ∀ b', b' < b → ¬ r.2.2.1 7 b' = 0 → bwy r b' + (upd (r.2.2.1 4) (r.2.2.2 1 - 1) (nI (bcs r (r.2.2.2 1 - 1) + 1)) b').toNatClampNeg ≤ bwy r b
    have hb' : b < r.2.2.2 1 := hb
    refine ⟨g1, ?_, ?_, fun b' h1 h2 => ?_⟩
    · by_cases c : b = r.2.2.2 1 - 1
      · rw [c, pk_us, nI_cl (by rw [← c]; omega)]
      · rw [pk_un c]; exact g2
    · by_cases c : b = r.2.2.2 1 - 1
      · rw [c, pk_us, nI_cl (by rw [← c]; omega), ← c]; omega
      · rw [pk_un c]; exact Nat.le_succ_of_le g3
    · rw [pk_un (by omega)]; exact g4 b' h1 h2
  · show ntF s (upd f1 (r.2.2.2 3) (nI t) i)
    have hi2 : i < r.2.2.2 3 + 1 := hi
    by_cases c : i = r.2.2.2 3
    · rw [c, pk_us]; exact ht
    · rw [pk_un c, hq i (by omega)]; exact b9 i (by omega)
theorem mI_begin (h : mI PM s r n a d) (hb : r.2.2.2 1 < 40) (hk : k9 = 3 → 1 ≤ r.2.2.2 1) (ht : ntF s (nI t)) :
    mI PM s (r.1, r.2.1, sUp (sUp (sUp (sUp r.2.2.1 2 (upd (r.2.2.1 2) (r.2.2.2 1) k9)) 3 (upd (r.2.2.1 3) (r.2.2.2 1) (nI t))) 5 (upd (r.2.2.1 5) (r.2.2.2 1) (nI (r.2.2.2 2)))) 7 (upd (r.2.2.1 7) (r.2.2.2 1) (vp_nar .boolean 0)), sUp r.2.2.2 1 (r.2.2.2 1 + 1)) n a d := by
  obtain ⟨a1, b1, b2, b3, ⟨c1, c2, c3, c4⟩, b5, b6, b7, b8, b9⟩ := h
  have hd := rI_dt a1.1
  have hst : r.2.2.2 2 ≤ 1000000 := by have l1 := b5.1; omega
  refine ⟨a1, b1, b2, b3, ⟨hb, c2, c3, c4⟩, b5, fun b hb9 => ?_, fun b hb9 hw => ?_, b8, b9⟩
  · have hb' : b < r.2.2.2 1 + 1 := hb9
    show ntF s (upd (r.2.2.1 3) (r.2.2.2 1) (nI t) b) ∧ (upd (r.2.2.1 2) (r.2.2.2 1) k9 b = 3 → 1 ≤ b) ∧ upd (r.2.2.1 5) (r.2.2.2 1) (nI (r.2.2.2 2)) b = nI (upd (r.2.2.1 5) (r.2.2.2 1) (nI (r.2.2.2 2)) b).toNatClampNeg ∧ (upd (r.2.2.1 5) (r.2.2.2 1) (nI (r.2.2.2 2)) b).toNatClampNeg ≤ r.2.2.2 2 ∧ ∀ b', b' < b → (upd (r.2.2.1 5) (r.2.2.2 1) (nI (r.2.2.2 2)) b').toNatClampNeg ≤ (upd (r.2.2.1 5) (r.2.2.2 1) (nI (r.2.2.2 2)) b).toNatClampNeg
    by_cases c : b = r.2.2.2 1
    · rw [c, pk_us, pk_us, pk_us, nI_cl hst]
      refine ⟨ht, hk, rfl, Nat.le_refl _, fun b' h1 => ?_⟩
      rw [pk_un (by omega)]; exact (b6 b' h1).2.2.2.1
    · obtain ⟨g1, g2, g3, g4, g5⟩ := b6 b (by omega)
      rw [pk_un c, pk_un c, pk_un c]
      refine ⟨g1, g2, g3, g4, fun b' h1 => ?_⟩
      rw [pk_un (by omega)]; exact g5 b' h1
  · have hb' : b < r.2.2.2 1 + 1 := hb9
    have hw' : ¬ upd (r.2.2.1 7) (r.2.2.2 1) (vp_nar .boolean 0) b = 0 := hw
    by_cases c : b = r.2.2.2 1
    · rw [c, pk_us] at hw'; exact absurd rfl hw'
    · rw [pk_un c] at hw'
      obtain ⟨g1, g2, g3, g4⟩ := b7 b (by omega) hw'
      refine ⟨g1, g2, g3, fun b' h1 h2 => g4 b' h1 ?_⟩
      have h3 : ¬ upd (r.2.2.1 7) (r.2.2.2 1) (vp_nar .boolean 0) b' = 0 := h2
      rw [pk_un (by omega)] at h3; exact h3
theorem mI_pop0 {G : Nat → Int32} (h : mI PM s r n a d) : mI PM s (r.1, r.2.1, sUp r.2.2.1 8 G, sUp r.2.2.2 1 (r.2.2.2 1 - 1)) n a d := by
  obtain ⟨a1, b1, b2, b3, ⟨c1, c2, c3, c4⟩, b5, b6, b7, b8, b9⟩ := h
  exact ⟨a1, b1, b2, b3, ⟨Nat.le_trans (Nat.sub_le _ _) c1, c2, c3, c4⟩, b5, fun b hb => b6 b (Nat.lt_of_lt_of_le hb (Nat.sub_le _ _)), fun b hb => b7 b (Nat.lt_of_lt_of_le hb (Nat.sub_le _ _)), b8, b9⟩
theorem mI_popS (h : mI PM s r n a d) (hb1 : 1 ≤ r.2.2.2 1) : mI PM s (r.1, r.2.1, r.2.2.1, sUp (sUp r.2.2.2 1 (r.2.2.2 1 - 1)) 2 (bfs r (r.2.2.2 1 - 1))) n a d := by
  obtain ⟨⟨a1, a2, a3, a4⟩, b1, b2, b3, ⟨c1, c2, c3, c4⟩, ⟨l1, l2, l3, l4⟩, b6, b7, b8, b9⟩ := h
  have e := (b6 (r.2.2.2 1 - 1) (by omega)).2.2.2.1
  have e5 := (b6 (r.2.2.2 1 - 1) (by omega)).2.2.2.2
  refine ⟨⟨a1, a2, ?_, ?_⟩, b1, b2, b3, ⟨Nat.le_trans (Nat.sub_le _ _) c1, c2, Nat.le_trans e c3, c4⟩, ⟨⟨l1.1, l1.2.1, Nat.le_trans e l1.2.2⟩, ⟨l2.1, l2.2.1, Nat.le_trans e l2.2.2⟩, ⟨l3.1, l3.2.1, Nat.le_trans e l3.2.2⟩, l4⟩, fun b hb => ?_, fun b hb => b7 b (Nat.lt_of_lt_of_le hb (Nat.sub_le _ _)), fun k hk => b8 k (Nat.lt_of_lt_of_le hk e), b9⟩
  · show s_n s + 103 * bfs r (r.2.2.2 1 - 1) ≤ a; omega
  · show s_dt s + 820 * bfs r (r.2.2.2 1 - 1) ≤ d; omega
  · obtain ⟨g1, g2, g3, g4, g5⟩ := b6 b (Nat.lt_of_lt_of_le hb (Nat.sub_le _ _))
    exact ⟨g1, g2, g3, e5 b hb, g5⟩
theorem mI_popW {G : Nat → Int32} (h : mI PM s r n a d) (hb1 : 1 ≤ r.2.2.2 1) (hw : ¬ r.2.2.1 7 (r.2.2.2 1 - 1) = 0) : mI PM s (r.1, r.2.1, sUp r.2.2.1 8 G, sUp (sUp r.2.2.2 1 (r.2.2.2 1 - 1)) 3 (bwy r (r.2.2.2 1 - 1))) n a d := by
  obtain ⟨a1, b1, b2, b3, ⟨c1, c2, c3, c4⟩, ⟨l1, l2, l3, l4⟩, b6, b7, b8, b9⟩ := h
  obtain ⟨e1, e2, e3, e4⟩ := b7 (r.2.2.2 1 - 1) (by omega) hw
  have e : bwy r (r.2.2.2 1 - 1) ≤ r.2.2.2 3 := by omega
  refine ⟨a1, b1, b2, b3, ⟨Nat.le_trans (Nat.sub_le _ _) c1, c2, c3, Nat.le_trans e c4⟩, ⟨l1, l2, l3, ⟨l4.1, l4.2.1, Nat.le_trans e l4.2.2⟩⟩, fun b hb => b6 b (Nat.lt_of_lt_of_le hb (Nat.sub_le _ _)), fun b hb hwb => ?_, b8, fun k hk => b9 k (Nat.lt_of_lt_of_le hk e)⟩
  obtain ⟨g1, g2, g3, g4⟩ := b7 b (Nat.lt_of_lt_of_le hb (Nat.sub_le _ _)) hwb
  exact ⟨g1, g2, e4 b hb hwb, g4⟩
theorem fm_put {F F1 : Nat → Int32} {g g1 v : Nat} (hR : rI PM s) (h : fmO s F g) (hg : g < 1000) (ev : v = g) (eF : F1 = upd F g w) (eg : g1 = g + 1) (hx : 1 ≤ x ∧ x ≤ s_n s) (hs : s_sz s x ≤ 100) : fmO s (upd F1 v (nI x)) g1 := by
  subst ev eF eg
  refine ⟨by omega, fun i hi => ?_⟩
  by_cases c : i = v
  · subst c
    rw [pk_us]
    have e : (nI x).toNatClampNeg = x := cl1 hR hx.2
    rw [e]
    exact ⟨rfl, hx, hs⟩
  · rw [pk_un c, pk_un c]; exact h.2 i (by omega)
end MI2

