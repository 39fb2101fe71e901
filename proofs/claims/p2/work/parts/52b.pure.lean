/-! A node written on the page: each node before its parts. -/
def pgT (s : St) : Nat → (Nat → Int32) → Nat → Nat → Prop
  | 0, _, _, _ => True
  | t + 1, pg, a, n => (pg a = s_kd s n ∧ pg (a + 1) = s_no s n ∧ pg (a + 2) = nI (s_ln s n)) ∧ ∀ j, j < s_ln s n → pgT s t pg (a + 3 + 3 * sumN (szC s n) j) (s_ch s n j)
/-- stores alike but for the page -/
def eqN (s s' : St) : Prop := (∀ k, k < 11 → s'.2.2.1 k = s.2.2.1 k) ∧ s'.2.1 = s.2.1 ∧ s_n s' = s_n s ∧ s_dt s' = s_dt s ∧ s_h s' = s_h s
section PAGE
variable {PM : Nat → Nat} {s s1 s2 s' : St} {n j x a : Nat} {pg pg' : Nat → Int32}
theorem eqN_refl : eqN s s := ⟨fun _ _ => rfl, rfl, rfl, rfl, rfl⟩
theorem eqN_trans (h : eqN s s1) (h1 : eqN s1 s2) : eqN s s2 := ⟨fun k hk => (h1.1 k hk).trans (h.1 k hk), h1.2.1.trans h.2.1, h1.2.2.1.trans h.2.2.1, h1.2.2.2.1.trans h.2.2.2.1, h1.2.2.2.2.trans h.2.2.2.2⟩
theorem q_kd (h : eqN s s') : s_kd s' x = s_kd s x := by unfold s_kd; rw [h.1 0 (by decide)]
theorem q_no (h : eqN s s') : s_no s' x = s_no s x := by unfold s_no; rw [h.1 1 (by decide)]
theorem q_att (h : eqN s s') : s_at s' x = s_at s x := by unfold s_at; rw [h.1 2 (by decide)]
theorem q_ln (h : eqN s s') : s_ln s' x = s_ln s x := by unfold s_ln; rw [h.1 3 (by decide)]
theorem q_sz (h : eqN s s') : s_sz s' x = s_sz s x := by unfold s_sz; rw [h.1 4 (by decide)]
theorem q_ch (h : eqN s s') : s_ch s' x j = s_ch s x j := by unfold s_ch; rw [q_att h, h.1 9 (by decide)]
theorem q_szC (h : eqN s s') : szC s' x = szC s x := by funext i; show s_sz s' (s_ch s' x i) = s_sz s (s_ch s x i); rw [q_ch h, q_sz h]
theorem sExt_eqN (h : eqN s s') : sExt s s' := by
  refine ⟨by rw [h.2.2.1]; exact Nat.le_refl _, by rw [h.2.2.2.1]; exact Nat.le_refl _, fun k hk x _ _ => by rw [h.1 k (by omega)], fun d _ => by rw [h.1 9 (by decide)], ?_, ?_⟩
  · unfold gs; rw [h.2.1]; exact Nat.le_refl _
  · unfold gc; rw [h.2.1]; exact Nat.le_refl _
theorem rI_eqN (hR : rI PM s) (h : eqN s s') : rI PM s' := by
  obtain ⟨r1, r2, r3, r4, r5, r6⟩ := hR
  refine ⟨fun k hk => by rw [h.2.1, h.2.2.1]; exact r1 k hk, by rw [h.2.1]; exact r2, by rw [h.2.1, h.2.2.2.1]; exact r3, by rw [h.2.1, h.2.2.2.2]; exact r4, fun x h1 h2 => nodeOK_ext (sExt_eqN h) r5 h1 (by rw [h.2.2.1] at h2; exact h2), fun q hq => ?_⟩
  rw [h.1 8 (by decide), h.1 7 (by decide), h.2.2.1]; exact r6 q hq
theorem pgT_eqN (h : eqN s s') : ∀ {t a n : Nat}, pgT s' t pg a n → pgT s t pg a n
  | 0, _, _, _ => trivial
  | t + 1, a, n, z => by
    obtain ⟨⟨z1, z2, z3⟩, z4⟩ := z
    refine ⟨⟨by rw [← q_kd h]; exact z1, by rw [← q_no h]; exact z2, by rw [← q_ln h]; exact z3⟩, fun j hj => ?_⟩
    have := z4 j (by rw [q_ln h]; exact hj)
    rw [q_szC h, q_ch h] at this
    exact pgT_eqN h this
theorem pgT_same (hR : rI PM s) : ∀ {t a n : Nat}, 1 ≤ n → n ≤ s_n s → (∀ i, a ≤ i → i < a + 3 * s_sz s n → pg' i = pg i) → pgT s t pg a n → pgT s t pg' a n
  | 0, _, _, _, _, _, _ => trivial
  | t + 1, a, n, h1, h2, e, z => by
    have hp := sz_pos hR h1 h2
    have ez := (rI_o hR h1 h2).2.2.2.1
    obtain ⟨⟨z1, z2, z3⟩, z4⟩ := z
    refine ⟨⟨by rw [e a (by omega) (by omega)]; exact z1, by rw [e (a + 1) (by omega) (by omega)]; exact z2, by rw [e (a + 2) (by omega) (by omega)]; exact z3⟩, fun j hj => ?_⟩
    have hC := (ch_b hR h1 h2 hj).1
    have l1 := sumN_lt (g := szC s n) hj
    have e1 : szC s n j = s_sz s (s_ch s n j) := rfl
    have e2 : sumN (szC s n) (s_ln s n) = sumN (fun j => s_sz s (s_ch s n j)) (s_ln s n) := rfl
    exact pgT_same hR hC.1 hC.2 (fun i g1 g2 => e i (by omega) (by omega)) (z4 j hj)
def wrP (PM : Nat → Nat) (s : St) (n : Nat) (s' : St) : Prop := rI PM s' ∧ eqN s s' ∧ s_p s' = s_p s + 3 * s_sz s n ∧ (∀ i, i < s_p s → s'.2.2.1 11 i = s.2.2.1 11 i) ∧ ∀ t, pgT s t (s'.2.2.1 11) (s_p s) n
/-- the loop over the parts that are written -/
def wlI (PM : Nat → Nat) (s : St) (n j : Nat) (s1 : St) : Prop := rI PM s1 ∧ eqN s s1 ∧ s_p s1 = s_p s + 3 + 3 * sumN (szC s n) j ∧ (∀ i, i < s_p s → s1.2.2.1 11 i = s.2.2.1 11 i) ∧
  (s1.2.2.1 11 (s_p s) = s_kd s n ∧ s1.2.2.1 11 (s_p s + 1) = s_no s n ∧ s1.2.2.1 11 (s_p s + 2) = nI (s_ln s n)) ∧ ∀ i, i < j → ∀ t, pgT s t (s1.2.2.1 11) (s_p s + 3 + 3 * sumN (szC s n) i) (s_ch s n i)
theorem wl_0 {q : Nat} {f1 : Nat → Int32} (hR : rI PM s) (hp : s_p s + 3 < 512) (hf : ∀ i, i < s.2.1 11 → f1 i = s.2.2.1 11 i) : wlI PM s n 0 (sUp s.1 11 q, sUp s.2.1 11 (mx (s_p s + 3) (s.2.1 11)), sUp s.2.2.1 11 (upd (upd (upd f1 (s_p s) (s_kd s n)) (s_p s + 1) (s_no s n)) (s_p s + 2) (nI (s_ln s n))), sUp s.2.2.2 3 (s_p s + 3)) := by
  have e : eqN s (sUp s.1 11 q, sUp s.2.1 11 (mx (s_p s + 3) (s.2.1 11)), sUp s.2.2.1 11 (upd (upd (upd f1 (s_p s) (s_kd s n)) (s_p s + 1) (s_no s n)) (s_p s + 2) (nI (s_ln s n))), sUp s.2.2.2 3 (s_p s + 3)) := by
    refine ⟨fun k hk => ?_, ?_, rfl, rfl, rfl⟩
    · show sUp s.2.2.1 11 _ k = _
      rw [sUp_n (by omega)]
    · funext k
      show sUp s.2.1 11 _ k = _
      by_cases c : k = 11
      · subst c; rw [sUp_s, mx_no (by rw [hR.2.1.2]; exact hp)]
      · rw [sUp_n c]
  refine ⟨rI_eqN hR e, e, rfl, fun i hi => ?_, ⟨?_, ?_, ?_⟩, fun i hi => absurd hi (Nat.not_lt_zero i)⟩
  · show upd (upd (upd f1 (s_p s) _) (s_p s + 1) _) (s_p s + 2) _ i = _
    rw [pk_un (by omega), pk_un (by omega), pk_un (by omega)]
    exact hf i (by rw [hR.2.1.2]; omega)
  · show upd (upd (upd f1 (s_p s) _) (s_p s + 1) _) (s_p s + 2) _ (s_p s) = _
    rw [pk_un (by omega), pk_un (by omega), pk_us]
  · show upd (upd (upd f1 (s_p s) _) (s_p s + 1) _) (s_p s + 2) _ (s_p s + 1) = _
    rw [pk_un (by omega), pk_us]
  · show upd (upd (upd f1 (s_p s) _) (s_p s + 1) _) (s_p s + 2) _ (s_p s + 2) = _
    rw [pk_us]
theorem wl_1 (hR : rI PM s) (h1 : 1 ≤ n) (h2 : n ≤ s_n s) (hj : j < s_ln s n) (h : wlI PM s n j s1) (hw : wrP PM s1 (s_ch s n j) s2) : wlI PM s n (j + 1) s2 := by
  obtain ⟨a1, a2, a3, a4, ⟨a5, a6, a7⟩, a8⟩ := h
  obtain ⟨b1, b2, b3, b4, b5⟩ := hw
  rw [q_sz a2] at b3
  have eS : sumN (szC s n) (j + 1) = sumN (szC s n) j + s_sz s (s_ch s n j) := rfl
  refine ⟨b1, eqN_trans a2 b2, by omega, fun i hi => (b4 i (by omega)).trans (a4 i hi), ⟨?_, ?_, ?_⟩, fun i hi t => ?_⟩
  · rw [b4 _ (by omega)]; exact a5
  · rw [b4 _ (by omega)]; exact a6
  · rw [b4 _ (by omega)]; exact a7
  · by_cases c : i = j
    · subst c
      have := pgT_eqN a2 (b5 t)
      rw [a3] at this
      exact this
    · have hC := (ch_b hR h1 h2 (show i < s_ln s n by omega)).1
      have l1 := sumN_lt (g := szC s n) (show i < j by omega)
      have e1 : szC s n i = s_sz s (s_ch s n i) := rfl
      exact pgT_same hR hC.1 hC.2 (fun k g1 g2 => b4 k (by omega)) (a8 i (by omega) t)
theorem wl_end (hR : rI PM s) (h1 : 1 ≤ n) (h2 : n ≤ s_n s) (h : wlI PM s n (s_ln s n) s1) : wrP PM s n s1 := by
  have ez := (rI_o hR h1 h2).2.2.2.1
  obtain ⟨a1, a2, a3, a4, a5, a8⟩ := h
  have e2 : sumN (szC s n) (s_ln s n) = sumN (fun j => s_sz s (s_ch s n j)) (s_ln s n) := rfl
  refine ⟨a1, a2, by omega, a4, fun t => ?_⟩
  cases t with
  | zero => trivial
  | succ t => exact ⟨a5, fun j hj => a8 j hj t⟩
theorem wl_room (hR : rI PM s) (h1 : 1 ≤ n) (h2 : n ≤ s_n s) (h : wlI PM s n j s1) (hj : j < s_ln s n) (hb : s_p s + 3 * s_sz s n < 512) : s_p s1 + 3 * s_sz s1 (s_ch s n j) < 512 ∧ s_sz s1 (s_ch s n j) + 1 ≤ s_sz s n := by
  have ez := (rI_o hR h1 h2).2.2.2.1
  have l1 := sumN_lt (g := szC s n) hj
  have e1 : szC s n j = s_sz s (s_ch s n j) := rfl
  have e2 : sumN (szC s n) (s_ln s n) = sumN (fun j => s_sz s (s_ch s n j)) (s_ln s n) := rfl
  obtain ⟨a1, a2, a3, _⟩ := h
  rw [q_sz a2]
  omega
end PAGE

