/-! The reference's store of nodes. s.1: where its arrays lie; s.2.1: how long they are; s.2.2.1: what they hold; s.2.2.2: its counts. Arrays: 0 kind, 1 number, 2 at, 3 len, 4 size, 5 loose, 6 next, 7 hash, 8 head, 9 data, 10 hand, 11 page. Counts: 0 nodes, 1 dataTop, 2 hands, 3 pages. -/
abbrev St : Type := (Nat → Nat) × (Nat → Nat) × (Nat → Nat → Int32) × (Nat → Nat)
def sUp {α : Type} (f : Nat → α) (k : Nat) (v : α) : Nat → α := fun j => bif Nat.beq j k then v else f j
theorem sUp_s {α : Type} {f : Nat → α} {k : Nat} {v : α} : sUp f k v k = v := by unfold sUp; rw [Nat.beq_refl]; rfl
theorem sUp_n {α : Type} {f : Nat → α} {k j : Nat} {v : α} (h : ¬ j = k) : sUp f k v j = f j := by
  unfold sUp
  cases e : Nat.beq j k with
  | false => rfl
  | true => exact absurd (Nat.eq_of_beq_eq_true e) h
/-- the length that 'more' gives -/
def mx (n N : Nat) : Nat := if n < N then N else max (n + 1) (2 * N)
theorem mx_no {n N : Nat} (h : n < N) : mx n N = N := by unfold mx; rw [if_pos h]
theorem mx_up {n N : Nat} (h : ¬ n < N) : mx n N = max (n + 1) (2 * N) := by unfold mx; rw [if_neg h]
theorem mx_b {n N : Nat} : N ≤ mx n N ∧ n < mx n N := by
  by_cases h : n < N
  · rw [mx_no h]; omega
  · rw [mx_up h]; omega
theorem mx_cost {n N : Nat} (h : ¬ n < N) (h6 : 64 ≤ N) : 1 ≤ mx n N / 64 - N / 64 ∧ mx n N ≤ 2 * mx n N - 2 * N := by
  rw [mx_up h]; omega
theorem mx_max {n N : Nat} (h : ¬ n < N) (hn : n ≤ 1000000) (hN : N ≤ 1000000) : (if nI (n + 1) < nI (2 * N) then nI (2 * N) else nI (n + 1)) = nI (mx n N) := by
  rw [mx_up h]
  by_cases c : n + 1 < 2 * N
  · rw [if_pos (nI_lt c (by omega)), show max (n + 1) (2 * N) = 2 * N by omega]
  · rw [if_neg (nI_nlt (by omega) (by omega)), show max (n + 1) (2 * N) = n + 1 by omega]
theorem nI_two (N : Nat) : 2 * nI N = nI (2 * N) := (Int32.ofNat_mul 2 N).symm
def cpTo (f : Nat → Int32) (i : Nat) : Nat → Int32 := fun j => if j < i then f j else 0
theorem cpTo_0 {f : Nat → Int32} : cpTo f 0 = fun _ => 0 := by
  funext j; unfold cpTo; rw [if_neg (by omega)]
theorem cpTo_up {f : Nat → Int32} {i : Nat} : upd (cpTo f i) i (f i) = cpTo f (i + 1) := by
  funext j
  by_cases e : j = i
  · subst e; rw [pk_us]; unfold cpTo; rw [if_pos (by omega)]
  · rw [pk_un e]; unfold cpTo
    by_cases e2 : j < i
    · rw [if_pos e2, if_pos (by omega)]
    · rw [if_neg e2, if_neg (by omega)]
theorem cpTo_at {f : Nat → Int32} {n i : Nat} (h : i < n) : cpTo f n i = f i := by unfold cpTo; rw [if_pos h]
def s_kd (s : St) (x : Nat) : Int32 := s.2.2.1 0 x
def s_no (s : St) (x : Nat) : Int32 := s.2.2.1 1 x
def s_at (s : St) (x : Nat) : Nat := (s.2.2.1 2 x).toNatClampNeg
def s_ln (s : St) (x : Nat) : Nat := (s.2.2.1 3 x).toNatClampNeg
def s_sz (s : St) (x : Nat) : Nat := (s.2.2.1 4 x).toNatClampNeg
def s_hs (s : St) (x : Nat) : Nat := (s.2.2.1 7 x).toNatClampNeg
def s_ch (s : St) (x j : Nat) : Nat := (s.2.2.1 9 (s_at s x + j)).toNatClampNeg
def s_hd (s : St) (j : Nat) : Nat := (s.2.2.1 10 j).toNatClampNeg
abbrev s_n (s : St) : Nat := s.2.2.2 0
abbrev s_dt (s : St) : Nat := s.2.2.2 1
abbrev s_h (s : St) : Nat := s.2.2.2 2
abbrev s_p (s : St) : Nat := s.2.2.2 3
def sumN (g : Nat → Nat) : Nat → Nat
  | 0 => 0
  | n + 1 => sumN g n + g n
theorem sumN_eq {g g' : Nat → Nat} : ∀ {n : Nat}, (∀ j, j < n → g j = g' j) → sumN g n = sumN g' n
  | 0, _ => rfl
  | n + 1, h => by
    show sumN g n + g n = sumN g' n + g' n
    rw [sumN_eq (fun j hj => h j (by omega)), h n (by omega)]
theorem sumN_ge {g : Nat → Nat} : ∀ {n j : Nat}, j < n → g j ≤ sumN g n
  | 0, j, h => absurd h (by omega)
  | n + 1, j, h => by
    show g j ≤ sumN g n + g n
    by_cases e : j = n
    · rw [e]; omega
    · have := sumN_ge (g := g) (show j < n by omega); omega
/-- the last place up to n that has the hash h; 0 if there is none -/
def pv (hs : Nat → Int32) (h : Int32) : Nat → Nat
  | 0 => 0
  | n + 1 => if hs (n + 1) = h then n + 1 else pv hs h n
theorem pv_le {hs : Nat → Int32} {h : Int32} : ∀ {n : Nat}, pv hs h n ≤ n
  | 0 => Nat.le_refl 0
  | n + 1 => by
    show ite _ _ _ ≤ _
    by_cases c : hs (n + 1) = h
    · rw [if_pos c]; omega
    · rw [if_neg c]; have := pv_le (hs := hs) (h := h) (n := n); omega
theorem pv_eq {hs hs' : Nat → Int32} {h : Int32} : ∀ {n : Nat}, (∀ x, 1 ≤ x → x ≤ n → hs x = hs' x) → pv hs h n = pv hs' h n
  | 0, _ => rfl
  | n + 1, e => by
    show ite _ _ _ = ite _ _ _
    rw [e (n + 1) (by omega) (by omega), pv_eq (fun x h1 h2 => e x h1 (by omega))]
/-- what a node of the kind k may have below it -/
def nfR (PM : Nat → Nat) (K : Nat → Int32) (c0 : Nat → Nat) (k o : Int32) (n : Nat) (c : Nat → Nat) : Prop :=
  ((k = 0 ∨ k = 2 ∨ k = 3) ∧ n = 0) ∨ (k = 1 ∧ n = 0 ∧ (o = 0 ∨ o = 1)) ∨ (k = 4 ∧ n = 2 ∧ ∀ j, j < n → K (c j) < 3) ∨
  (k = 5 ∧ (∃ p : Nat, p < 30 ∧ o = nI p ∧ n = PM p ∧ n ≤ 2) ∧ ∀ j, j < n → K (c j) < 3) ∨
  (k = 6 ∧ n = 1 ∧ 3 ≤ K (c 0) ∧ ¬ K (c 0) = 6) ∨ (k = 7 ∧ 2 ≤ n ∧ ∀ j, j < n → 3 < K (c j) ∧ ¬ K (c j) = 7 ∧ ¬ (K (c j) = 6 ∧ K (c0 (c j)) = 3)) ∨
  (k = 8 ∧ n = 1 ∧ 3 < K (c 0))
abbrev s_c0 (s : St) : Nat → Nat := fun x => s_ch s x 0
def nodeOK (PM : Nat → Nat) (s : St) (x : Nat) : Prop :=
  (s.2.2.1 2 x = nI (s_at s x) ∧ s.2.2.1 3 x = nI (s_ln s x) ∧ s.2.2.1 4 x = nI (s_sz s x) ∧ s_sz s x < 1000000) ∧ s_at s x + s_ln s x ≤ s_dt s ∧
  (∀ j, j < s_ln s x → s.2.2.1 9 (s_at s x + j) = nI (s_ch s x j) ∧ 1 ≤ s_ch s x j ∧ s_ch s x j < x) ∧
  s_sz s x = 1 + sumN (fun j => s_sz s (s_ch s x j)) (s_ln s x) ∧ (s.2.2.1 7 x = nI (s_hs s x) ∧ s_hs s x < 4096) ∧ s.2.2.1 6 x = nI (pv (s.2.2.1 7) (s.2.2.1 7 x) (x - 1)) ∧
  nfR PM (s_kd s) (s_c0 s) (s_kd s x) (s_no s x) (s_ln s x) (s_ch s x)
def capN (C b : Nat) : Prop := ∃ e : Nat, e ≤ b ∧ C = 1024 * 2 ^ e
def rI (PM : Nat → Nat) (s : St) : Prop :=
  (∀ k, k < 8 → capN (s.2.1 k) 7 ∧ s_n s < s.2.1 k) ∧ (s.2.1 8 = 4096 ∧ s.2.1 11 = 512) ∧ (capN (s.2.1 9) 9 ∧ s_dt s < s.2.1 9) ∧ (capN (s.2.1 10) 3 ∧ s_h s ≤ s.2.1 10) ∧
  (∀ x, 1 ≤ x → x ≤ s_n s → nodeOK PM s x) ∧ ∀ h, h < 4096 → s.2.2.1 8 h = nI (pv (s.2.2.1 7) (nI h) (s_n s))
theorem capN_b {C b : Nat} (hb : b ≤ 9) (h : capN C b) : 1024 ≤ C ∧ C ≤ 524288 := by
  obtain ⟨e, h1, h2⟩ := h
  have : e = 0 ∨ e = 1 ∨ e = 2 ∨ e = 3 ∨ e = 4 ∨ e = 5 ∨ e = 6 ∨ e = 7 ∨ e = 8 ∨ e = 9 := by omega
  rcases this with h | h | h | h | h | h | h | h | h | h <;> subst h <;> rw [h2] <;> decide
/-- growing stays below the last length -/
theorem capN_mx {C b n : Nat} (hb : b ≤ 9) (h : capN C b) (hn : n < 1024 * 2 ^ b) (hn2 : n ≤ 2 * C - 1) : capN (mx n C) b := by
  by_cases c : n < C
  · rw [mx_no c]; exact h
  · have hC := (capN_b hb h).1
    obtain ⟨e, h1, h2⟩ := h
    have he : e < b := by
      rcases Nat.lt_or_ge e b with q | q
      · exact q
      · have : e = b := by omega
        rw [this] at h2
        omega
    refine ⟨e + 1, he, ?_⟩
    have e1 : n + 1 ≤ 2 * C := by omega
    rw [mx_up c, Nat.max_eq_right e1, h2, Nat.pow_succ, Nat.mul_comm 2, Nat.mul_assoc]
/-- the room that the store has taken -/
def gs (s : St) : Nat := 2 * (s.2.1 0 + s.2.1 1 + s.2.1 2 + s.2.1 3 + s.2.1 4 + s.2.1 5 + s.2.1 6 + s.2.1 7 + s.2.1 9 + s.2.1 10)
def gc (s : St) : Nat := s.2.1 0 / 64 + s.2.1 1 / 64 + s.2.1 2 / 64 + s.2.1 3 / 64 + s.2.1 4 / 64 + s.2.1 5 / 64 + s.2.1 6 / 64 + s.2.1 7 / 64 + s.2.1 9 / 64 + s.2.1 10 / 64
abbrev KS : Nat := 3162112
abbrev KC : Nat := 24704

