/-! The desk when it is new; both sides' answers to 'predicate'. -/
theorem dI_0 {cR : ClassId} {pl : va_W} {tr qt : Nat} {BA : Nat → Option Nat} {f : Nat → Int32} (hB : nB 40 BA pl) (hJ : bInj BA) : dI cR (pl ++ [(tr, .inr (1, [.ref qt, .int (fm_whole (newC f 1) (1 : Int32).toNatClampNeg), .int (fm (newC f 1) (1 : Int32).toNatClampNeg).2])), (qt, .inl (cR, (1 : Int32).toNatClampNeg, .inl (newC f 1)))]) tr 0 0 0 1 (fun _ => none) (fun _ => none) BA 1 1 := by
  refine ⟨fun _ => (0, fun _ => 0), fun _ => (0, fun _ => 0), fun _ => (0, none, 0, 0, none), fun _ => (0, fun _ => 0), fun _ => [], fun x a e => ?_, fun i a e => absurd e (by simp), ⟨fun i hi => ?_, fun i h => absurd h (Nat.not_lt_zero i), fun i h => absurd h (Nat.not_lt_zero i)⟩, hJ, ⟨_, new_fIn (n1 := 1) (f1 := f) (by decide)⟩, ⟨setOk, setOk⟩, ⟨by decide, by decide, by decide⟩, Or.inr rfl⟩
  · unfold q_formAt at e
    by_cases c1 : x < 0
    · rw [if_pos c1] at e; cases e
    · rw [if_neg c1] at e
      by_cases c2 : (0 : Int32) ≤ x
      · rw [if_pos c2] at e; cases e
      · have g1 := i_nlt c1; have g2 := i_nle c2
        omega
  · obtain ⟨b, h1, h2⟩ := hB.2 i hi
    exact ⟨b, h1, i, get_grow h2⟩
theorem prd_eq {r : Rt} {P : Nat → Int32} {x pr pr1 v9 th : Int32} {f : Int64} {p1 v : Nat} (hp : r.2.2.2 0 ≤ 30) (e : pr = nI (r.2.2.2 0))
    (h : (v9 = 1 ∧ ¬ (¬ x < 0 ∧ x ≤ 2) ∧ pr1 = pr) ∨ (v9 = 2 ∧ ((¬ x < 0 ∧ x ≤ 2) ∧ ¬ pr < 30) ∧ pr1 = pr) ∨ (v9 = 0 ∧ ((¬ x < 0 ∧ x ≤ 2) ∧ pr < 30) ∧ pr1 = pr + 1 ∧ f = pr.toInt64))
    (q : (th = 1 ∧ ¬ (¬ x < 0 ∧ x ≤ 2) ∧ P = r.2.2.1 0 ∧ p1 = r.2.2.2 0) ∨ (th = 2 ∧ (¬ x < 0 ∧ x ≤ 2) ∧ r.2.2.2 0 = 30 ∧ P = r.2.2.1 0 ∧ p1 = r.2.2.2 0) ∨ (th = 0 ∧ (¬ x < 0 ∧ x ≤ 2) ∧ r.2.2.2 0 < 30 ∧ v = r.2.2.2 0 ∧ P = upd (r.2.2.1 0) (r.2.2.2 0) x ∧ p1 = r.2.2.2 0 + 1)) :
    (v9 = 1 ∧ th = 1 ∧ pr1 = nI p1 ∧ P = r.2.2.1 0 ∧ p1 = r.2.2.2 0) ∨ (v9 = 2 ∧ th = 2 ∧ pr1 = nI p1 ∧ P = r.2.2.1 0 ∧ p1 = r.2.2.2 0) ∨ (v9 = 0 ∧ th = 0 ∧ pr1 = nI p1 ∧ f = (nI v).toInt64 ∧ (¬ x < 0 ∧ x ≤ 2) ∧ r.2.2.2 0 < 30 ∧ P = upd (r.2.2.1 0) (r.2.2.2 0) x ∧ p1 = r.2.2.2 0 + 1) := by
  subst e
  have lt30 : nI (r.2.2.2 0) < 30 ↔ r.2.2.2 0 < 30 := nI_ltI (by omega) (by decide)
  rcases h with ⟨a1, a2, a3⟩ | ⟨a1, ⟨a2, a4⟩, a3⟩ | ⟨a1, ⟨a2, a4⟩, a3, a5⟩
  · rcases q with ⟨b1, b2, b3, b4⟩ | ⟨b1, b2, _⟩ | ⟨b1, b2, _⟩
    · exact Or.inl ⟨a1, b1, by rw [a3, b4], b3, b4⟩
    · exact absurd b2 a2
    · exact absurd b2 a2
  · rcases q with ⟨b1, b2, _⟩ | ⟨b1, b2, b3, b4, b5⟩ | ⟨b1, b2, b3, _⟩
    · exact absurd a2 b2
    · exact Or.inr (Or.inl ⟨a1, b1, by rw [a3, b5], b4, b5⟩)
    · exact absurd (lt30.mpr b3) a4
  · rcases q with ⟨b1, b2, _⟩ | ⟨b1, b2, b3, b4, b5⟩ | ⟨b1, b2, b3, b4, b5, b6⟩
    · exact absurd a2 b2
    · exact absurd (lt30.mp a4) (by omega)
    · exact Or.inr (Or.inr ⟨a1, b1, by rw [a3, b6]; exact nI_1 _, by rw [a5, b4], b2, b3, b5, b6⟩)
theorem lcmp_0 {x : Int64} : (if x > x then (1 : Int32) else if x == x then 0 else -1) = 0 := by
  rw [if_neg (fun h => absurd h (Int64.lt_irrefl))]
  simp
theorem nI_4 (j : Nat) : nI (4 * j) + 4 = nI (4 * (j + 1)) := by
  have h : nI (4 * j) + nI 4 = nI (4 * j + 4) := nI_add _ _
  exact h
theorem law_gt {j L : Nat} (hL : L ≤ 2048) (h : L < 4 * j + 4) (hj : 4 * j ≤ 2048) : nI L - 4 < nI (4 * j) := by
  have e : (nI L - 4).toInt = (L : Int) - 4 := by
    have e1 : (nI L).toInt = (L : Int) := nI_toInt (by omega)
    exact i_sub e1 (show (4 : Int32).toInt = 4 from by decide) (by omega) (by omega)
  exact i_ltm (by rw [e, nI_toInt (by omega)]; omega)
theorem law_ngt {j L : Nat} (hL : L ≤ 2048) (h : 4 * j + 4 ≤ L) : ¬ nI L - 4 < nI (4 * j) := by
  have e : (nI L - 4).toInt = (L : Int) - 4 := by
    have e1 : (nI L).toInt = (L : Int) := nI_toInt (by omega)
    exact i_sub e1 (show (4 : Int32).toInt = 4 from by decide) (by omega) (by omega)
  exact i_nltm (by rw [e, nI_toInt (by omega)]; omega)

