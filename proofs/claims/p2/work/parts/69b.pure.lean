section ATOM
variable {PM : Nat → Nat} {s s1 : St} {L : List Nat} {o : Int32}
theorem sumN_one : ∀ {n : Nat}, sumN (fun _ => 1) n = n
  | 0 => rfl
  | n + 1 => by show sumN (fun _ => 1) n + 1 = n + 1; rw [sumN_one]
/-- terms in the hand -/
theorem tm_hand (hR : rI PM s) (hg : gvP PM s s1 L) (hL : ∀ v, v ∈ L → tmN s v) : handOK s1 (s_h s) ∧ s_h s ≤ s_h s1 ∧ s_h s1 - s_h s = L.length ∧ (∀ j, j < L.length → s_kd s1 (s_hd s1 (s_h s + j)) < 3) ∧ sumN (fun j => s_sz s1 (s_hd s1 (s_h s + j))) L.length = L.length := by
  have hn := rI_n hR
  have hl := hg.2.2.1.2.2.1
  have key : ∀ j, j < L.length → ∃ w, s1.2.2.1 10 (s_h s + j) = nI w ∧ s_hd s1 (s_h s + j) = w ∧ tmN s w := fun j hj => by
    obtain ⟨w, hw⟩ : ∃ w, L[j]? = some w := ⟨_, List.getElem?_eq_getElem hj⟩
    have q := hg.2.2.2.2.1 j w hw
    have t := hL w (List.mem_of_getElem? hw)
    exact ⟨w, q, by unfold s_hd; rw [q]; exact nI_clamp (by have := t.1.2; omega), t⟩
  refine ⟨fun j g1 g2 => ?_, by omega, by omega, fun j hj => ?_, ?_⟩
  · obtain ⟨w, k1, k2, k3⟩ := key (j - s_h s) (by omega)
    rw [show s_h s + (j - s_h s) = j by omega] at k1 k2
    rw [k1, k2, hg.2.2.1.1]
    exact ⟨rfl, k3.1⟩
  · obtain ⟨w, k1, k2, k3⟩ := key j hj
    rw [k2, e_kd hg.2.1 k3.1.1 k3.1.2]; exact k3.2
  · refine (sumN_eq (g' := fun _ => 1) (fun j hj => ?_)).trans sumN_one
    obtain ⟨w, k1, k2, k3⟩ := key j hj
    rw [k2, e_sz hg.2.1 k3.1.1 k3.1.2]; exact (nf_t hR k3.1.1 k3.1.2 k3.2).2
theorem at_nf4 (hR : rI PM s) (hg : gvP PM s s1 L) (hL : ∀ v, v ∈ L → tmN s v) (h2 : L.length = 2) : nfR PM (s_kd s1) (s_c0 s1) 4 o (s_h s1 - s_h s) (fun j => s_hd s1 (s_h s + j)) := by
  obtain ⟨a1, a2, a3, a4, a5⟩ := tm_hand hR hg hL
  rw [a3]
  exact Or.inr (Or.inr (Or.inl ⟨rfl, h2, a4⟩))
theorem at_nf5 (hR : rI PM s) (hg : gvP PM s s1 L) (hL : ∀ v, v ∈ L → tmN s v) {p : Nat} (hp : p < 30) (hm : PM p ≤ 2) (h2 : L.length = PM p) : nfR PM (s_kd s1) (s_c0 s1) 5 (nI p) (s_h s1 - s_h s) (fun j => s_hd s1 (s_h s + j)) := by
  obtain ⟨a1, a2, a3, a4, a5⟩ := tm_hand hR hg hL
  rw [a3]
  exact Or.inr (Or.inr (Or.inr (Or.inl ⟨rfl, ⟨p, hp, rfl, h2, by omega⟩, a4⟩)))
end ATOM

