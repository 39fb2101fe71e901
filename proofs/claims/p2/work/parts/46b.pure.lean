/-! Numbers given one after the other. -/
def gvP (PM : Nat → Nat) (s s' : St) (L : List Nat) : Prop := rI PM s' ∧ sExt s s' ∧ (s_n s' = s_n s ∧ s_dt s' = s_dt s ∧ s_h s' = s_h s + L.length ∧ s_p s' = s_p s) ∧ (∀ i, i < s_h s → s'.2.2.1 10 i = s.2.2.1 10 i) ∧ (∀ j v, L[j]? = some v → s'.2.2.1 10 (s_h s + j) = nI v) ∧ s'.2.2.1 11 = s.2.2.1 11
def chL (s : St) (c : Nat) : Nat → List Nat
  | 0 => []
  | j + 1 => chL s c j ++ [s_ch s c j]
def fl1 (s : St) (c : Nat) : List Nat := if s_kd s c = 3 then [] else if s_kd s c = 7 then chL s c (s_ln s c) else [c]
def flA (s : St) (l : Nat → Nat) : Nat → List Nat
  | 0 => []
  | i + 1 => flA s l i ++ fl1 s (l i)
def lsum (g : Nat → Nat) : List Nat → Nat
  | [] => 0
  | a :: l => g a + lsum g l
theorem lsum_app {g : Nat → Nat} {a b : List Nat} : lsum g (a ++ b) = lsum g a + lsum g b := by
  induction a with
  | nil => show lsum g b = 0 + lsum g b; omega
  | cons x l ih => show g x + lsum g (l ++ b) = g x + lsum g l + lsum g b; rw [ih]; omega
theorem lsum_sumN {g : Nat → Nat} {l : List Nat} {c : Nat → Nat} (h : ∀ j v, l[j]? = some v → c j = v) : sumN (fun j => g (c j)) l.length = lsum g l := by
  have key : ∀ (l2 l1 : List Nat), l1 ++ l2 = l → sumN (fun j => g (c j)) l1.length + lsum g l2 = sumN (fun j => g (c j)) l.length := by
    intro l2
    induction l2 with
    | nil => intro l1 e; rw [List.append_nil] at e; rw [e]; rfl
    | cons x r ih =>
      intro l1 e
      have e2 := ih (l1 ++ [x]) (by rw [List.append_assoc]; exact e)
      have ex : c l1.length = x := h l1.length x (by rw [← e, List.getElem?_append_right (Nat.le_refl _), Nat.sub_self]; rfl)
      rw [List.length_append] at e2
      have e3 : sumN (fun j => g (c j)) (l1.length + [x].length) = sumN (fun j => g (c j)) l1.length + g (c l1.length) := rfl
      rw [e3, ex] at e2
      show _ + (g x + lsum g r) = _
      omega
  have := key l [] rfl
  show _ = _
  have e0 : sumN (fun j => g (c j)) ([] : List Nat).length = 0 := rfl
  omega
section GV8
variable {PM : Nat → Nat} {s s1 s2 s' : St} {L : List Nat} {v c j i fm : Nat} {l : Nat → Nat}
theorem gv_0 (hR : rI PM s) : gvP PM s s [] := ⟨hR, sExt_refl, ⟨rfl, rfl, rfl, rfl⟩, fun _ _ => rfl, fun j v h => by simp at h, rfl⟩
theorem gv_1 (h : gvP PM s s1 L) (hg : giveP PM s1 (nI v) s2) : gvP PM s s2 (L ++ [v]) := by
  obtain ⟨a1, a2, ⟨a3, a4, a5, a6⟩, a7, a8, a9⟩ := h
  obtain ⟨b1, b2, ⟨b3, b4, b5, b6⟩, b7, b8, b9⟩ := hg
  refine ⟨b1, sExt_trans a2 b2, ⟨by omega, by omega, by rw [List.length_append]; show s_h s2 = s_h s + (L.length + 1); omega, by omega⟩, fun i hi => (b7 i (by omega)).trans (a7 i hi), fun j w hj => ?_, b9.trans a9⟩
  by_cases cj : j < L.length
  · rw [List.getElem?_append_left cj] at hj
    rw [b7 _ (by omega)]
    exact a8 j w hj
  · rw [List.getElem?_append_right (by omega)] at hj
    have e : j - L.length = 0 := by
      rcases Nat.eq_zero_or_pos (j - L.length) with q | q
      · exact q
      · rw [List.getElem?_eq_none (by show 1 ≤ _; omega)] at hj; cases hj
    rw [e] at hj
    have ev : v = w := Option.some.inj hj
    rw [show s_h s + j = s_h s1 by omega, b8, ev]
theorem chL_len : ∀ {n : Nat}, (chL s c n).length = n
  | 0 => rfl
  | n + 1 => by show (chL s c n ++ [s_ch s c n]).length = _; rw [List.length_append, chL_len]; rfl
theorem chL_get : ∀ {n j v : Nat}, (chL s c n)[j]? = some v → j < n ∧ s_ch s c j = v
  | 0, j, v, h => by simp [chL] at h
  | n + 1, j, v, h => by
    have h2 : (chL s c n ++ [s_ch s c n])[j]? = some v := h
    by_cases q : j < n
    · rw [List.getElem?_append_left (by rw [chL_len]; exact q)] at h2
      exact ⟨by omega, (chL_get h2).2⟩
    · rw [List.getElem?_append_right (by rw [chL_len]; omega), chL_len] at h2
      have e : j - n = 0 := by
        rcases Nat.eq_zero_or_pos (j - n) with z | z
        · exact z
        · rw [List.getElem?_eq_none (by show 1 ≤ _; omega)] at h2; cases h2
      rw [e] at h2
      have ej : j = n := by omega
      subst ej
      exact ⟨by omega, Option.some.inj h2⟩
theorem chL_mem {n : Nat} (h : v ∈ chL s c n) : ∃ j, j < n ∧ s_ch s c j = v := by
  obtain ⟨j, hj⟩ := List.getElem?_of_mem h
  exact ⟨j, (chL_get hj).1, (chL_get hj).2⟩
theorem chL_sum {g : Nat → Nat} : ∀ {n : Nat}, lsum g (chL s c n) = sumN (fun j => g (s_ch s c j)) n
  | 0 => rfl
  | n + 1 => by
    show lsum g (chL s c n ++ [s_ch s c n]) = sumN (fun j => g (s_ch s c j)) n + g (s_ch s c n)
    rw [lsum_app, chL_sum]; rfl
/-- NOT TRUE -/
abbrev nev (s : St) (c : Nat) : Prop := s_kd s c = 6 ∧ s_kd s (s_ch s c 0) = 3
theorem nf_7 (hR : rI PM s) (h1 : 1 ≤ c) (h2 : c ≤ s_n s) (hk : s_kd s c = 7) : 2 ≤ s_ln s c ∧ ∀ j, j < s_ln s c → 3 < s_kd s (s_ch s c j) ∧ ¬ s_kd s (s_ch s c j) = 7 ∧ ¬ nev s (s_ch s c j) := by
  rcases (rI_o hR h1 h2).2.2.2.2.2.2 with ⟨h, _⟩ | ⟨h, _⟩ | ⟨h, _⟩ | ⟨h, _⟩ | ⟨h, _⟩ | ⟨_, h3, h4⟩ | ⟨h, _⟩
  · rw [hk] at h; rcases h with h | h | h <;> exact absurd h (by decide)
  · rw [hk] at h; exact absurd h (by decide)
  · rw [hk] at h; exact absurd h (by decide)
  · rw [hk] at h; exact absurd h (by decide)
  · rw [hk] at h; exact absurd h (by decide)
  · exact ⟨h3, h4⟩
  · rw [hk] at h; exact absurd h (by decide)
/-- what the flat list holds, where none of the formulas is NOT TRUE -/
theorem fl1_mem (hR : rI PM s) (hc : isF s c) (hv : v ∈ fl1 s c) : (1 ≤ v ∧ v ≤ s_n s) ∧ 3 < s_kd s v ∧ ¬ s_kd s v = 7 ∧ (nev s v → nev s c ∧ v = c) := by
  unfold fl1 at hv
  by_cases c1 : s_kd s c = 3
  · rw [if_pos c1] at hv; simp at hv
  · rw [if_neg c1] at hv
    by_cases c2 : s_kd s c = 7
    · rw [if_pos c2] at hv
      obtain ⟨j, hj, e⟩ := chL_mem hv
      have o := (rI_o hR hc.1.1 hc.1.2).2.2.1 j hj
      obtain ⟨_, n2⟩ := nf_7 hR hc.1.1 hc.1.2 c2
      obtain ⟨n3, n4, n5⟩ := n2 j hj
      rw [← e]
      exact ⟨⟨o.2.1, by have := hc.1.2; omega⟩, n3, n4, fun q => absurd q n5⟩
    · rw [if_neg c2] at hv
      have ev : v = c := List.mem_singleton.mp hv
      subst ev
      exact ⟨hc.1, lt3 hc.2 c1, c2, fun q => ⟨q, rfl⟩⟩
theorem flA_mem (hR : rI PM s) : ∀ {n : Nat}, (∀ j, j < n → isF s (l j)) → v ∈ flA s l n → ((1 ≤ v ∧ v ≤ s_n s) ∧ 3 < s_kd s v ∧ ¬ s_kd s v = 7) ∧ (nev s v → ∃ j, j < n ∧ nev s (l j))
  | 0, _, hv => by simp [flA] at hv
  | n + 1, hl, hv => by
    have hv2 : v ∈ flA s l n ++ fl1 s (l n) := hv
    rcases List.mem_append.mp hv2 with q | q
    · obtain ⟨a, b⟩ := flA_mem hR (fun j hj => hl j (by omega)) q
      exact ⟨a, fun z => by obtain ⟨j, j1, j2⟩ := b z; exact ⟨j, by omega, j2⟩⟩
    · obtain ⟨a1, a2, a3, a4⟩ := fl1_mem hR (hl n (by omega)) q
      exact ⟨⟨a1, a2, a3⟩, fun z => ⟨n, by omega, (a4 z).1⟩⟩
theorem sz_pos (hR : rI PM s) (h1 : 1 ≤ c) (h2 : c ≤ s_n s) : 1 ≤ s_sz s c := by
  rw [(rI_o hR h1 h2).2.2.2.1]; omega
/-- the flat list is no longer, and no larger, than what it is made of -/
theorem fl1_b (hR : rI PM s) (hc : isF s c) : (fl1 s c).length ≤ s_sz s c ∧ lsum (s_sz s) (fl1 s c) ≤ s_sz s c := by
  have hp := sz_pos hR hc.1.1 hc.1.2
  unfold fl1
  by_cases c1 : s_kd s c = 3
  · rw [if_pos c1]; exact ⟨Nat.zero_le _, Nat.zero_le _⟩
  · rw [if_neg c1]
    by_cases c2 : s_kd s c = 7
    · rw [if_pos c2, chL_len, chL_sum]
      have o := rI_o hR hc.1.1 hc.1.2
      have e := o.2.2.2.1
      have hge : ∀ n, n ≤ s_ln s c → n ≤ sumN (fun j => s_sz s (s_ch s c j)) n := by
        intro n
        induction n with
        | zero => intro _; exact Nat.zero_le _
        | succ n ih =>
          intro hn
          have q := o.2.2.1 n (by omega)
          have := sz_pos hR q.2.1 (by have := hc.1.2; omega)
          have := ih (by omega)
          show n + 1 ≤ sumN (fun j => s_sz s (s_ch s c j)) n + s_sz s (s_ch s c n)
          omega
      have := hge _ (Nat.le_refl _)
      exact ⟨by omega, by omega⟩
    · rw [if_neg c2]
      exact ⟨hp, by show s_sz s c + 0 ≤ _; omega⟩
theorem flA_b (hR : rI PM s) : ∀ {n : Nat}, (∀ j, j < n → isF s (l j)) → (flA s l n).length ≤ sumN (fun j => s_sz s (l j)) n ∧ lsum (s_sz s) (flA s l n) ≤ sumN (fun j => s_sz s (l j)) n
  | 0, _ => ⟨Nat.le_refl _, Nat.le_refl _⟩
  | n + 1, h => by
    obtain ⟨a, b⟩ := flA_b hR (n := n) (fun j hj => h j (by omega))
    obtain ⟨c1, c2⟩ := fl1_b hR (h n (by omega))
    show (flA s l n ++ fl1 s (l n)).length ≤ sumN (fun j => s_sz s (l j)) n + s_sz s (l n) ∧ lsum (s_sz s) (flA s l n ++ fl1 s (l n)) ≤ sumN (fun j => s_sz s (l j)) n + s_sz s (l n)
    rw [List.length_append, lsum_app]
    omega
end GV8
section AND9
variable {PM : Nat → Nat} {s s1 s2 s' : St} {x v fm i m : Nat} {l : Nat → Nat}
theorem flA_le : ∀ {m i : Nat}, i < m → (flA s l i).length + (fl1 s (l i)).length ≤ (flA s l m).length
  | 0, _, h => absurd h (by omega)
  | m + 1, i, h => by
    show _ ≤ (flA s l m ++ fl1 s (l m)).length
    rw [List.length_append]
    by_cases c : i = m
    · subst c; exact Nat.le_refl _
    · have := flA_le (show i < m by omega); omega
/-- the NOT TRUE that was met last, up to a place -/
def nvI (s : St) (l : Nat → Nat) (i v : Nat) : Prop := (v = 0 ∧ ∀ j, j < i → ¬ nev s (l j)) ∨ (∃ j, j < i ∧ nev s (l j) ∧ v = l j)
theorem nv_no (h : nvI s l i v) (hn : ¬ nev s (l i)) : nvI s l (i + 1) v := by
  rcases h with ⟨h1, h2⟩ | ⟨j, h1, h2, h3⟩
  · refine Or.inl ⟨h1, fun j hj => ?_⟩
    by_cases c : j = i
    · subst c; exact hn
    · exact h2 j (by omega)
  · exact Or.inr ⟨j, by omega, h2, h3⟩
theorem nv_yes (hn : nev s (l i)) : nvI s l (i + 1) (l i) := Or.inr ⟨i, by omega, hn, rfl⟩
def andX (s : St) (l : Nat → Nat) (m : Nat) (s' : St) (x : Nat) : Prop :=
  (∃ j, j < m ∧ nev s (l j) ∧ x = l j) ∨ ((∀ j, j < m → ¬ nev s (l j)) ∧
    ((flA s l m = [] ∧ s_kd s' x = 3 ∧ s_sz s' x = 1) ∨ flA s l m = [x] ∨ (2 ≤ (flA s l m).length ∧ s_kd s' x = 7 ∧ s_ln s' x = (flA s l m).length ∧ (∀ j w, (flA s l m)[j]? = some w → s_ch s' x j = w) ∧ s_sz s' x = 1 + lsum (s_sz s) (flA s l m))))
abbrev hdF (s : St) (fm : Nat) : Nat → Nat := fun j => s_hd s (fm + j)
def andP (PM : Nat → Nat) (s : St) (fm : Nat) (s' : St) (x : Nat) : Prop :=
  rI PM s' ∧ sExt s s' ∧ (s_n s' ≤ s_n s + 1 ∧ s_dt s' ≤ s_dt s + (flA s (hdF s fm) (s_h s - fm)).length ∧ s_h s' = fm ∧ s_p s' = s_p s) ∧ ((∀ i, i < fm → s'.2.2.1 10 i = s.2.2.1 10 i) ∧ s'.2.2.1 11 = s.2.2.1 11) ∧ isF s' x ∧ andX s (hdF s fm) (s_h s - fm) s' x
theorem and_n (hf : fm ≤ s_h s) (hg : gvP PM s s1 (flA s (hdF s fm) (s_h s - fm))) (hF : ∀ j, j < s_h s - fm → isF s (hdF s fm j)) (hv : ∃ j, j < s_h s - fm ∧ nev s (hdF s fm j) ∧ v = hdF s fm j) : andP PM s fm (hsS s1 fm) v := by
  obtain ⟨a1, a2, ⟨a3, a4, a5, a6⟩, a7, a8, a9⟩ := hg
  obtain ⟨j, j1, j2, j3⟩ := hv
  have q := hF j j1
  subst j3
  refine ⟨rI_hs a1 (by have := a1.2.2.2.1.2; omega), sExt_trans a2 sExt_hs, ⟨by show s_n s1 ≤ _; omega, by show s_dt s1 ≤ _; omega, rfl, a6⟩, ⟨fun i hi => a7 i (by omega), a9⟩, ⟨⟨q.1.1, by show _ ≤ s_n s1; have := q.1.2; omega⟩, ?_⟩, Or.inl ⟨j, j1, j2, rfl⟩⟩
  show 3 ≤ s_kd s1 _
  rw [e_kd a2 q.1.1 q.1.2]; exact q.2
theorem and_t (hf : fm ≤ s_h s) (hg : gvP PM s s1 (flA s (hdF s fm) (s_h s - fm))) (hv : ∀ j, j < s_h s - fm → ¬ nev s (hdF s fm j)) (h0 : flA s (hdF s fm) (s_h s - fm) = []) {o : Int32} {z : Nat} (ht : rI PM s2 ∧ sExt s1 s2 ∧ opP PM s1 1 0 s2 x ∧ s_kd s2 x = 3 ∧ s_no s2 x = o ∧ s_ln s2 x = z ∧ s_sz s2 x = 1) : andP PM s fm (hsS s2 fm) x := by
  obtain ⟨a1, a2, ⟨a3, a4, a5, a6⟩, a7, a8, a9⟩ := hg
  obtain ⟨b1, b2, ⟨_, _, ⟨b3, b4, b5, b6⟩, ⟨b7, b8⟩, b9⟩, c1, c2, c3, c4⟩ := ht
  refine ⟨rI_hs b1 (by have := b1.2.2.2.1.2; omega), sExt_trans (sExt_trans a2 b2) sExt_hs, ⟨by show s_n s2 ≤ _; omega, by show s_dt s2 ≤ _; omega, rfl, by show s_p s2 = _; omega⟩, ⟨fun i hi => (b7 i (by omega)).trans (a7 i (by omega)), b8.trans a9⟩, ⟨b9, ?_⟩, Or.inr ⟨hv, Or.inl ⟨h0, c1, c4⟩⟩⟩
  show 3 ≤ s_kd s2 x
  rw [c1]; decide
theorem and_1 (hR : rI PM s) (hf : fm ≤ s_h s) (hg : gvP PM s s1 (flA s (hdF s fm) (s_h s - fm))) (hF : ∀ j, j < s_h s - fm → isF s (hdF s fm j)) (hv : ∀ j, j < s_h s - fm → ¬ nev s (hdF s fm j)) (h0 : flA s (hdF s fm) (s_h s - fm) = [v]) : andP PM s fm (hsS s1 fm) v := by
  obtain ⟨a1, a2, ⟨a3, a4, a5, a6⟩, a7, a8, a9⟩ := hg
  have q := (flA_mem (v := v) hR hF (by rw [h0]; exact List.mem_singleton.mpr rfl)).1
  refine ⟨rI_hs a1 (by have := a1.2.2.2.1.2; omega), sExt_trans a2 sExt_hs, ⟨by show s_n s1 ≤ _; omega, by show s_dt s1 ≤ _; omega, rfl, a6⟩, ⟨fun i hi => a7 i (by omega), a9⟩, ⟨⟨q.1.1, by show _ ≤ s_n s1; have := q.1.2; omega⟩, ?_⟩, Or.inr ⟨hv, Or.inr (Or.inl h0)⟩⟩
  show 3 ≤ s_kd s1 _
  rw [e_kd a2 q.1.1 q.1.2]; exact Int32.le_of_lt q.2.1
theorem gv_hd (hR : rI PM s) (hg : gvP PM s s1 (flA s l m)) (hF : ∀ j, j < m → isF s (l j)) {j w : Nat} (h : (flA s l m)[j]? = some w) : s1.2.2.1 10 (s_h s + j) = nI w ∧ s_hd s1 (s_h s + j) = w ∧ (1 ≤ w ∧ w ≤ s_n s) := by
  have q := (flA_mem (v := w) hR hF (List.mem_of_getElem? h)).1
  have e := hg.2.2.2.2.1 j w h
  refine ⟨e, ?_, q.1⟩
  unfold s_hd; rw [e]
  exact nI_clamp (by have := rI_n hR; omega)
theorem and_hand (hR : rI PM s) (hg : gvP PM s s1 (flA s l m)) (hF : ∀ j, j < m → isF s (l j)) : handOK s1 (s_h s) := by
  intro j h1 h2
  rw [hg.2.2.1.2.2.1] at h2
  obtain ⟨w, hw⟩ : ∃ w, (flA s l m)[j - s_h s]? = some w := ⟨_, List.getElem?_eq_getElem (by omega)⟩
  obtain ⟨q1, q2, q3⟩ := gv_hd hR hg hF hw
  rw [show s_h s + (j - s_h s) = j by omega] at q1 q2
  rw [q1, q2, hg.2.2.1.1]
  exact ⟨rfl, q3⟩
theorem and_nf (hR : rI PM s) (hg : gvP PM s s1 (flA s l m)) (hF : ∀ j, j < m → isF s (l j)) (hv : ∀ j, j < m → ¬ nev s (l j)) (h2 : 2 ≤ (flA s l m).length) {o : Int32} : nfR PM (s_kd s1) (s_c0 s1) 7 o (s_h s1 - s_h s) (fun j => s_hd s1 (s_h s + j)) := by
  have e : s_h s1 - s_h s = (flA s l m).length := by have := hg.2.2.1.2.2.1; omega
  rw [e]
  refine Or.inr (Or.inr (Or.inr (Or.inr (Or.inr (Or.inl ⟨rfl, h2, fun j hj => ?_⟩)))))
  obtain ⟨w, hw⟩ : ∃ w, (flA s l m)[j]? = some w := ⟨_, List.getElem?_eq_getElem hj⟩
  obtain ⟨q1, q2, q3⟩ := gv_hd hR hg hF hw
  obtain ⟨⟨p1, p2, p3⟩, p4⟩ := flA_mem (v := w) hR hF (List.mem_of_getElem? hw)
  show 3 < s_kd s1 (s_hd s1 (s_h s + j)) ∧ ¬ s_kd s1 (s_hd s1 (s_h s + j)) = 7 ∧ ¬ (s_kd s1 (s_hd s1 (s_h s + j)) = 6 ∧ s_kd s1 (s_ch s1 (s_hd s1 (s_h s + j)) 0) = 3)
  rw [q2, e_kd hg.2.1 q3.1 q3.2]
  refine ⟨p2, p3, fun z => ?_⟩
  obtain ⟨z1, z2⟩ := z
  obtain ⟨k1, k2, k3, k4⟩ := nf_6 hR q3.1 q3.2 z1
  have z3 : s_kd s1 (s_ch s1 w 0) = 3 := z2
  rw [e_ch hg.2.1 q3.1 q3.2 (rI_o hR q3.1 q3.2) (by omega), e_kd hg.2.1 k2.1.1 k2.1.2] at z3
  obtain ⟨j', j1, j2⟩ := p4 ⟨z1, z3⟩
  exact hv j' j1 j2
theorem and_sz (hR : rI PM s) (hg : gvP PM s s1 (flA s l m)) (hF : ∀ j, j < m → isF s (l j)) : sumN (fun j => s_sz s1 (s_hd s1 (s_h s + j))) (s_h s1 - s_h s) = lsum (s_sz s) (flA s l m) := by
  have e : s_h s1 - s_h s = (flA s l m).length := by have := hg.2.2.1.2.2.1; omega
  rw [e, ← lsum_sumN (c := fun j => s_hd s1 (s_h s + j)) (fun j w h => (gv_hd hR hg hF h).2.1)]
  refine sumN_eq (fun j hj => ?_)
  obtain ⟨w, hw⟩ : ∃ w, (flA s l m)[j]? = some w := ⟨_, List.getElem?_eq_getElem hj⟩
  obtain ⟨q1, q2, q3⟩ := gv_hd hR hg hF hw
  rw [q2]
  exact e_sz hg.2.1 q3.1 q3.2
theorem and_2 (hR : rI PM s) (hf : fm ≤ s_h s) (hg : gvP PM s s1 (flA s (hdF s fm) (s_h s - fm))) (hF : ∀ j, j < s_h s - fm → isF s (hdF s fm j)) (hv : ∀ j, j < s_h s - fm → ¬ nev s (hdF s fm j)) (h2 : 2 ≤ (flA s (hdF s fm) (s_h s - fm)).length) {o : Int32} (h : nodeP PM s1 7 o (s_h s) s2 x) : andP PM s fm (hsS s2 fm) x := by
  have esz := and_sz hR hg hF
  have hg0 := hg
  obtain ⟨a1, a2, ⟨a3, a4, a5, a6⟩, a7, a8, a9⟩ := hg
  obtain ⟨b1, b2, ⟨b3, b4, b5, b6⟩, ⟨b7, b8⟩, b9, ⟨c1, c2, c3, c4⟩, c5⟩ := h
  have e : s_h s1 - s_h s = (flA s (hdF s fm) (s_h s - fm)).length := by omega
  rw [esz] at c5
  rw [e] at b4 c3 c4
  refine ⟨rI_hs b1 (by have := b1.2.2.2.1.2; omega), sExt_trans (sExt_trans a2 b2) sExt_hs, ⟨by show s_n s2 ≤ _; omega, by show s_dt s2 ≤ _; omega, rfl, by show s_p s2 = _; omega⟩, ⟨fun i hi => ?_, b8.trans a9⟩, ⟨b9, ?_⟩, Or.inr ⟨hv, Or.inr (Or.inr ⟨h2, c1, c3, fun j w hw => ?_, c5⟩)⟩⟩
  · show s2.2.2.1 10 i = _
    rw [b7]; exact a7 i (by omega)
  · show 3 ≤ s_kd s2 x
    rw [c1]; decide
  · show s_ch s2 x j = w
    rw [c4 j (List.getElem?_eq_some_iff.mp hw).1]
    exact (gv_hd hR hg0 hF hw).2.1
end AND9

