/-! A node more, or the one that is there. -/
def lst {α : Type} (d : α) (l : List α) : Nat → α := fun k => l.getD k d
def hsS (s : St) (a : Nat) : St := (s.1, s.2.1, s.2.2.1, sUp s.2.2.2 2 a)
theorem rI_hs {PM : Nat → Nat} {s : St} {a : Nat} (hR : rI PM s) (h : a ≤ s.2.1 10) : rI PM (hsS s a) := ⟨hR.1, hR.2.1, hR.2.2.1, ⟨hR.2.2.2.1.1, h⟩, hR.2.2.2.2.1, hR.2.2.2.2.2⟩
theorem sExt_hs {s : St} {a : Nat} : sExt s (hsS s a) := ⟨Nat.le_refl _, Nat.le_refl _, fun _ _ _ _ _ => rfl, fun _ _ => rfl, Nat.le_refl _, Nat.le_refl _⟩
def nodeP (PM : Nat → Nat) (s : St) (k o : Int32) (fm : Nat) (s' : St) (x : Nat) : Prop :=
  rI PM s' ∧ sExt s s' ∧ (s_n s' ≤ s_n s + 1 ∧ s_dt s' ≤ s_dt s + (s_h s - fm) ∧ s_h s' = fm ∧ s_p s' = s_p s) ∧ (s'.2.2.1 10 = s.2.2.1 10 ∧ s'.2.2.1 11 = s.2.2.1 11) ∧ (1 ≤ x ∧ x ≤ s_n s') ∧
  (s_kd s' x = k ∧ s_no s' x = o ∧ s_ln s' x = s_h s - fm ∧ ∀ j, j < s_h s - fm → s_ch s' x j = s_hd s (fm + j)) ∧ s_sz s' x = 1 + sumN (fun j => s_sz s (s_hd s (fm + j))) (s_h s - fm)
theorem and_4095 (z : Int32) : ∃ h : Nat, h < 4096 ∧ z &&& 4095 = nI h := by
  have e : (z &&& 4095).toInt = (z &&& 4095).toNatClampNeg ∧ (z &&& 4095).toNatClampNeg < 4096 := by
    have e1 : (z &&& 4095).toBitVec = z.toBitVec &&& 4095#32 := rfl
    have e2 : (z &&& 4095).toBitVec.toNat ≤ 4095 := by rw [e1, BitVec.toNat_and]; exact Nat.and_le_right
    have e3 : (z &&& 4095).toInt = ((z &&& 4095).toBitVec.toNat : Int) := by
      show (z &&& 4095).toBitVec.toInt = _
      rw [BitVec.toInt_eq_toNat_of_lt]
      omega
    have e4 : (z &&& 4095).toNatClampNeg = (z &&& 4095).toInt.toNat := i_clamp _
    rw [e4, e3]
    omega
  refine ⟨(z &&& 4095).toNatClampNeg, e.2, Int32.toInt_inj.mp ?_⟩
  rw [nI_toInt (by omega)]; exact e.1
theorem nI_subN {a b : Nat} (h : b ≤ a) : nI a - nI b = nI (a - b) := by
  have e := nI_add (a - b) b
  rw [Nat.sub_add_cancel h] at e
  rw [← e, Int32.add_sub_cancel]
section NODE
variable {PM : Nat → Nat} {s s2 : St} {k o : Int32} {fm x hN n : Nat}
abbrev handOK (s : St) (fm : Nat) : Prop := ∀ j, fm ≤ j → j < s_h s → s.2.2.1 10 j = nI (s_hd s j) ∧ 1 ≤ s_hd s j ∧ s_hd s j ≤ s_n s
/-- the node that is there -/
theorem hit_ok (hR : rI PM s) (hf : fm ≤ s_h s) (h1 : 1 ≤ x) (h2 : x ≤ s_n s) (hk : s_kd s x = k) (ho : s_no s x = o) (hl : s_ln s x = s_h s - fm) (hc : ∀ j, j < s_h s - fm → s_ch s x j = s_hd s (fm + j)) : nodeP PM s k o fm (hsS s fm) x := by
  refine ⟨rI_hs hR (Nat.le_trans hf hR.2.2.2.1.2), sExt_hs, ⟨Nat.le_succ _, Nat.le_add_right _ _, rfl, rfl⟩, ⟨rfl, rfl⟩, ⟨h1, h2⟩, ⟨hk, ho, hl, hc⟩, ?_⟩
  show s_sz s x = _
  rw [(rI_o hR h1 h2).2.2.2.1, hl]
  exact congrArg (fun z => 1 + z) (sumN_eq (fun j hj => by rw [hc j hj]))
/-- the arrays with room for one node more -/
def moreP (s s2 : St) (n : Nat) : Prop :=
  (∀ k, k < 8 → s2.2.1 k = mx (s_n s + 1) (s.2.1 k) ∧ ∀ i, i < s.2.1 k → s2.2.2.1 k i = s.2.2.1 k i) ∧ (s2.2.1 9 = mx (s_dt s + n) (s.2.1 9) ∧ ∀ i, i < s.2.1 9 → s2.2.2.1 9 i = s.2.2.1 9 i) ∧ (s2.2.1 8 = s.2.1 8 ∧ s2.2.1 10 = s.2.1 10 ∧ s2.2.1 11 = s.2.1 11) ∧
  (s2.2.2.1 8 = s.2.2.1 8 ∧ s2.2.2.1 10 = s.2.2.1 10 ∧ s2.2.2.1 11 = s.2.2.1 11) ∧ (s_n s2 = s_n s + 1 ∧ s_dt s2 = s_dt s ∧ s_h s2 = s_h s ∧ s_p s2 = s_p s)
theorem k8 {P : Nat → Prop} (h0 : P 0) (h1 : P 1) (h2 : P 2) (h3 : P 3) (h4 : P 4) (h5 : P 5) (h6 : P 6) (h7 : P 7) : ∀ k, k < 8 → P k := by
  intro k hk
  have : k = 0 ∨ k = 1 ∨ k = 2 ∨ k = 3 ∨ k = 4 ∨ k = 5 ∨ k = 6 ∨ k = 7 := by omega
  rcases this with h | h | h | h | h | h | h | h <;> subst h <;> assumption
theorem more_ok {A : Nat → Nat} {f0 f1 f2 f3 f4 f5 f6 f7 f9 : Nat → Int32} (h0 : ∀ i, i < s.2.1 0 → f0 i = s.2.2.1 0 i) (h1 : ∀ i, i < s.2.1 1 → f1 i = s.2.2.1 1 i) (h2 : ∀ i, i < s.2.1 2 → f2 i = s.2.2.1 2 i) (h3 : ∀ i, i < s.2.1 3 → f3 i = s.2.2.1 3 i) (h4 : ∀ i, i < s.2.1 4 → f4 i = s.2.2.1 4 i) (h5 : ∀ i, i < s.2.1 5 → f5 i = s.2.2.1 5 i) (h6 : ∀ i, i < s.2.1 6 → f6 i = s.2.2.1 6 i) (h7 : ∀ i, i < s.2.1 7 → f7 i = s.2.2.1 7 i) (h9 : ∀ i, i < s.2.1 9 → f9 i = s.2.2.1 9 i) :
    moreP s (A, lst 0 [mx (s_n s + 1) (s.2.1 0), mx (s_n s + 1) (s.2.1 1), mx (s_n s + 1) (s.2.1 2), mx (s_n s + 1) (s.2.1 3), mx (s_n s + 1) (s.2.1 4), mx (s_n s + 1) (s.2.1 5), mx (s_n s + 1) (s.2.1 6), mx (s_n s + 1) (s.2.1 7), s.2.1 8, mx (s_dt s + n) (s.2.1 9), s.2.1 10, s.2.1 11], lst (fun _ => 0) [f0, f1, f2, f3, f4, f5, f6, f7, s.2.2.1 8, f9, s.2.2.1 10, s.2.2.1 11], sUp s.2.2.2 0 (s_n s + 1)) n :=
  ⟨k8 ⟨rfl, h0⟩ ⟨rfl, h1⟩ ⟨rfl, h2⟩ ⟨rfl, h3⟩ ⟨rfl, h4⟩ ⟨rfl, h5⟩ ⟨rfl, h6⟩ ⟨rfl, h7⟩, ⟨rfl, h9⟩, ⟨rfl, rfl, rfl⟩, ⟨rfl, rfl, rfl⟩, rfl, rfl, rfl, rfl⟩
/-- numbers put into an array from d on -/
def dTo (g : Nat → Int32) (d : Nat) (c : Nat → Int32) (i : Nat) : Nat → Int32 := fun a => if d ≤ a ∧ a < d + i then c (a - d) else g a
theorem dTo_0 {g : Nat → Int32} {d : Nat} {c : Nat → Int32} : dTo g d c 0 = g := by
  funext a; unfold dTo; rw [if_neg (by omega)]
theorem dTo_up {g : Nat → Int32} {d : Nat} {c : Nat → Int32} {i : Nat} : upd (dTo g d c i) (d + i) (c i) = dTo g d c (i + 1) := by
  funext a
  by_cases e : a = d + i
  · subst e; rw [pk_us]; unfold dTo; rw [if_pos (by omega), show d + i - d = i by omega]
  · rw [pk_un e]; unfold dTo
    by_cases e2 : d ≤ a ∧ a < d + i
    · rw [if_pos e2, if_pos (by omega)]
    · rw [if_neg e2, if_neg (by omega)]
theorem dTo_in {g : Nat → Int32} {d : Nat} {c : Nat → Int32} {n j : Nat} (h : j < n) : dTo g d c n (d + j) = c j := by
  unfold dTo; rw [if_pos (by omega), show d + j - d = j by omega]
theorem dTo_lo {g : Nat → Int32} {d : Nat} {c : Nat → Int32} {n a : Nat} (h : a < d) : dTo g d c n a = g a := by
  unfold dTo; rw [if_neg (by omega)]
/-- the room for one node more -/
theorem more_cap (hR : rI PM s) (hb : s_n s < 131071) (hd : s_dt s + n < 524288) (hn : n ≤ 1000) : (∀ k, k < 8 → capN (mx (s_n s + 1) (s.2.1 k)) 7) ∧ capN (mx (s_dt s + n) (s.2.1 9)) 9 := by
  refine ⟨fun k hk => ?_, ?_⟩
  · have a := hR.1 k hk
    have := capN_b (by decide) a.1
    exact capN_mx (by decide) a.1 (by show s_n s + 1 < 131072; omega) (by omega)
  · have a := hR.2.2.1
    have := capN_b (by decide) a.1
    exact capN_mx (by decide) a.1 (by show s_dt s + n < 524288; omega) (by omega)
theorem capN_7 {C : Nat} (h : capN C 7) : C ≤ 131072 := by
  obtain ⟨e, h1, h2⟩ := h
  have : e = 0 ∨ e = 1 ∨ e = 2 ∨ e = 3 ∨ e = 4 ∨ e = 5 ∨ e = 6 ∨ e = 7 := by omega
  rcases this with h | h | h | h | h | h | h | h <;> subst h <;> rw [h2] <;> decide
theorem capN_3 {C : Nat} (h : capN C 3) : C ≤ 8192 := by
  obtain ⟨e, h1, h2⟩ := h
  have : e = 0 ∨ e = 1 ∨ e = 2 ∨ e = 3 := by omega
  rcases this with h | h | h | h <;> subst h <;> rw [h2] <;> decide
/-- what the nine arrays may take, and take -/
theorem more_room (hR : rI PM s) (hb : s_n s < 131071) (hd : s_dt s + n < 524288) (hn : n ≤ 1000) :
    (mx (s_n s + 1) (s.2.1 0) / 64 - s.2.1 0 / 64) + (mx (s_n s + 1) (s.2.1 1) / 64 - s.2.1 1 / 64) + (mx (s_n s + 1) (s.2.1 2) / 64 - s.2.1 2 / 64) + (mx (s_n s + 1) (s.2.1 3) / 64 - s.2.1 3 / 64) + (mx (s_n s + 1) (s.2.1 4) / 64 - s.2.1 4 / 64) + (mx (s_n s + 1) (s.2.1 5) / 64 - s.2.1 5 / 64) + (mx (s_n s + 1) (s.2.1 6) / 64 - s.2.1 6 / 64) + (mx (s_n s + 1) (s.2.1 7) / 64 - s.2.1 7 / 64) + (mx (s_dt s + n) (s.2.1 9) / 64 - s.2.1 9 / 64) ≤ KC - gc s ∧
    (2 * mx (s_n s + 1) (s.2.1 0) - 2 * s.2.1 0) + (2 * mx (s_n s + 1) (s.2.1 1) - 2 * s.2.1 1) + (2 * mx (s_n s + 1) (s.2.1 2) - 2 * s.2.1 2) + (2 * mx (s_n s + 1) (s.2.1 3) - 2 * s.2.1 3) + (2 * mx (s_n s + 1) (s.2.1 4) - 2 * s.2.1 4) + (2 * mx (s_n s + 1) (s.2.1 5) - 2 * s.2.1 5) + (2 * mx (s_n s + 1) (s.2.1 6) - 2 * s.2.1 6) + (2 * mx (s_n s + 1) (s.2.1 7) - 2 * s.2.1 7) + (2 * mx (s_dt s + n) (s.2.1 9) - 2 * s.2.1 9) ≤ KS - gs s := by
  obtain ⟨a, a9⟩ := more_cap hR hb hd hn
  have b0 := capN_7 (a 0 (by decide)); have b1 := capN_7 (a 1 (by decide)); have b2 := capN_7 (a 2 (by decide)); have b3 := capN_7 (a 3 (by decide))
  have b4 := capN_7 (a 4 (by decide)); have b5 := capN_7 (a 5 (by decide)); have b6 := capN_7 (a 6 (by decide)); have b7 := capN_7 (a 7 (by decide))
  have b9 := (capN_b (by decide) a9).2
  have b10 := capN_3 hR.2.2.2.1.1
  have c0 := (mx_b (n := s_n s + 1) (N := s.2.1 0)).1; have c1 := (mx_b (n := s_n s + 1) (N := s.2.1 1)).1; have c2 := (mx_b (n := s_n s + 1) (N := s.2.1 2)).1; have c3 := (mx_b (n := s_n s + 1) (N := s.2.1 3)).1
  have c4 := (mx_b (n := s_n s + 1) (N := s.2.1 4)).1; have c5 := (mx_b (n := s_n s + 1) (N := s.2.1 5)).1; have c6 := (mx_b (n := s_n s + 1) (N := s.2.1 6)).1; have c7 := (mx_b (n := s_n s + 1) (N := s.2.1 7)).1
  have c9 := (mx_b (n := s_dt s + n) (N := s.2.1 9)).1
  unfold gc gs KC KS
  constructor
  · omega
  · omega
theorem more_use (hm : moreP s s2 n) : gc s2 = mx (s_n s + 1) (s.2.1 0) / 64 + mx (s_n s + 1) (s.2.1 1) / 64 + mx (s_n s + 1) (s.2.1 2) / 64 + mx (s_n s + 1) (s.2.1 3) / 64 + mx (s_n s + 1) (s.2.1 4) / 64 + mx (s_n s + 1) (s.2.1 5) / 64 + mx (s_n s + 1) (s.2.1 6) / 64 + mx (s_n s + 1) (s.2.1 7) / 64 + mx (s_dt s + n) (s.2.1 9) / 64 + s.2.1 10 / 64 ∧
    gs s2 = 2 * (mx (s_n s + 1) (s.2.1 0) + mx (s_n s + 1) (s.2.1 1) + mx (s_n s + 1) (s.2.1 2) + mx (s_n s + 1) (s.2.1 3) + mx (s_n s + 1) (s.2.1 4) + mx (s_n s + 1) (s.2.1 5) + mx (s_n s + 1) (s.2.1 6) + mx (s_n s + 1) (s.2.1 7) + mx (s_dt s + n) (s.2.1 9) + s.2.1 10) := by
  unfold gc gs
  rw [(hm.1 0 (by decide)).1, (hm.1 1 (by decide)).1, (hm.1 2 (by decide)).1, (hm.1 3 (by decide)).1, (hm.1 4 (by decide)).1, (hm.1 5 (by decide)).1, (hm.1 6 (by decide)).1, (hm.1 7 (by decide)).1, hm.2.1.1, hm.2.2.1.2.1]
  exact ⟨rfl, rfl⟩
theorem more_le (hm : moreP s s2 n) : gc s ≤ gc s2 ∧ gs s ≤ gs s2 := by
  obtain ⟨e1, e2⟩ := more_use hm
  have c0 := (mx_b (n := s_n s + 1) (N := s.2.1 0)).1; have c1 := (mx_b (n := s_n s + 1) (N := s.2.1 1)).1; have c2 := (mx_b (n := s_n s + 1) (N := s.2.1 2)).1; have c3 := (mx_b (n := s_n s + 1) (N := s.2.1 3)).1
  have c4 := (mx_b (n := s_n s + 1) (N := s.2.1 4)).1; have c5 := (mx_b (n := s_n s + 1) (N := s.2.1 5)).1; have c6 := (mx_b (n := s_n s + 1) (N := s.2.1 6)).1; have c7 := (mx_b (n := s_n s + 1) (N := s.2.1 7)).1
  have c9 := (mx_b (n := s_dt s + n) (N := s.2.1 9)).1
  rw [e1, e2]
  unfold gc gs
  constructor <;> omega
end NODE

section NEW9
variable {PM : Nat → Nat} {s s2 : St} {k o lo : Int32} {fm hN : Nat}
/-- the store with the new node written -/
def newS (s2 : St) (k o lo : Int32) (fm hN n S : Nat) (c : Nat → Int32) : St :=
  (s2.1, s2.2.1, lst (fun _ => 0) [upd (s2.2.2.1 0) (s_n s2) k, upd (s2.2.2.1 1) (s_n s2) o, upd (s2.2.2.1 2) (s_n s2) (nI (s_dt s2)), upd (s2.2.2.1 3) (s_n s2) (nI n), upd (s2.2.2.1 4) (s_n s2) (nI S), upd (s2.2.2.1 5) (s_n s2) lo, upd (s2.2.2.1 6) (s_n s2) (s2.2.2.1 8 hN), upd (s2.2.2.1 7) (s_n s2) (nI hN), upd (s2.2.2.1 8) hN (nI (s_n s2)), dTo (s2.2.2.1 9) (s_dt s2) c n, s2.2.2.1 10, s2.2.2.1 11],
   lst 0 [s_n s2, s_dt s2 + n, fm, s_p s2])
theorem new_ok {n : Nat} (hR : rI PM s) (hf : fm ≤ s_h s) (hc : handOK s fm) (hnf : nfR PM (s_kd s) (s_c0 s) k o (s_h s - fm) (fun j => s_hd s (fm + j))) (hb : s_n s < 131071 ∧ s_dt s + (s_h s - fm) < 524288 ∧ s_h s - fm ≤ 1000 ∧ 1 + sumN (fun j => s_sz s (s_hd s (fm + j))) (s_h s - fm) < 1000000) (en : n = s_h s - fm) (hm : moreP s s2 n) (hh : hN < 4096) :
    nodeP PM s k o fm (newS s2 k o lo fm hN n (1 + sumN (fun j => s_sz s (s_hd s (fm + j))) (s_h s - fm)) (fun j => nI (s_hd s2 (fm + j)))) (s_n s2) := by
  subst en
  obtain ⟨b1, b2, b3, b4⟩ := hb
  have hR0 := hR
  obtain ⟨r1, r2, r3, r4, r5, r6⟩ := hR
  obtain ⟨m1, m2, m3, m4, m5, m6, m7, m8⟩ := hm
  obtain ⟨q1, q9⟩ := more_cap hR0 b1 b2 b3
  have hl := more_le ⟨m1, m2, m3, m4, m5, m6, m7, m8⟩
  have hhd : ∀ j, s_hd s2 j = s_hd s j := fun j => by unfold s_hd; rw [m4.2.1]
  generalize eS : 1 + sumN (fun j => s_sz s (s_hd s (fm + j))) (s_h s - fm) = S at b4
  generalize eT : newS s2 k o lo fm hN (s_h s - fm) S (fun j => nI (s_hd s2 (fm + j))) = t
  have t0 : t.2.2.1 0 = upd (s2.2.2.1 0) (s_n s2) k := by rw [← eT]; rfl
  have t1 : t.2.2.1 1 = upd (s2.2.2.1 1) (s_n s2) o := by rw [← eT]; rfl
  have t2 : t.2.2.1 2 = upd (s2.2.2.1 2) (s_n s2) (nI (s_dt s2)) := by rw [← eT]; rfl
  have t3 : t.2.2.1 3 = upd (s2.2.2.1 3) (s_n s2) (nI (s_h s - fm)) := by rw [← eT]; rfl
  have t4 : t.2.2.1 4 = upd (s2.2.2.1 4) (s_n s2) (nI S) := by rw [← eT]; rfl
  have t5 : t.2.2.1 5 = upd (s2.2.2.1 5) (s_n s2) lo := by rw [← eT]; rfl
  have t6 : t.2.2.1 6 = upd (s2.2.2.1 6) (s_n s2) (s2.2.2.1 8 hN) := by rw [← eT]; rfl
  have t7 : t.2.2.1 7 = upd (s2.2.2.1 7) (s_n s2) (nI hN) := by rw [← eT]; rfl
  have t8 : t.2.2.1 8 = upd (s2.2.2.1 8) hN (nI (s_n s2)) := by rw [← eT]; rfl
  have t9 : t.2.2.1 9 = dTo (s2.2.2.1 9) (s_dt s2) (fun j => nI (s_hd s2 (fm + j))) (s_h s - fm) := by rw [← eT]; rfl
  have t10 : t.2.2.1 10 = s2.2.2.1 10 := by rw [← eT]; rfl
  have t11 : t.2.2.1 11 = s2.2.2.1 11 := by rw [← eT]; rfl
  have tn : s_n t = s_n s + 1 := by rw [← eT]; exact m5
  have td : s_dt t = s_dt s + (s_h s - fm) := by rw [← eT, ← m6]; rfl
  have th : s_h t = fm := by rw [← eT]; rfl
  have tp : s_p t = s_p s := by rw [← eT]; exact m8
  have tc : t.2.1 = s2.2.1 := by rw [← eT]; rfl
  have tg : gs t = gs s2 ∧ gc t = gc s2 := by rw [← eT]; exact ⟨rfl, rfl⟩
  rw [m5] at t0 t1 t2 t3 t4 t5 t6 t7 t8
  rw [m6] at t2 t9
  have hE : sExt s t := by
    refine ⟨by rw [tn]; omega, by rw [td]; omega, ?_, fun d hd => ?_, by rw [tg.1]; exact hl.2, by rw [tg.2]; exact hl.1⟩
    · refine k8 ?_ ?_ ?_ ?_ ?_ ?_ ?_ ?_ <;> intro x h1 h2
      · rw [t0, pk_un (by omega)]; exact (m1 0 (by decide)).2 x (by have := (r1 0 (by decide)).2; omega)
      · rw [t1, pk_un (by omega)]; exact (m1 1 (by decide)).2 x (by have := (r1 1 (by decide)).2; omega)
      · rw [t2, pk_un (by omega)]; exact (m1 2 (by decide)).2 x (by have := (r1 2 (by decide)).2; omega)
      · rw [t3, pk_un (by omega)]; exact (m1 3 (by decide)).2 x (by have := (r1 3 (by decide)).2; omega)
      · rw [t4, pk_un (by omega)]; exact (m1 4 (by decide)).2 x (by have := (r1 4 (by decide)).2; omega)
      · rw [t5, pk_un (by omega)]; exact (m1 5 (by decide)).2 x (by have := (r1 5 (by decide)).2; omega)
      · rw [t6, pk_un (by omega)]; exact (m1 6 (by decide)).2 x (by have := (r1 6 (by decide)).2; omega)
      · rw [t7, pk_un (by omega)]; exact (m1 7 (by decide)).2 x (by have := (r1 7 (by decide)).2; omega)
    · rw [t9, dTo_lo hd]; exact m2.2 d (by have := r3.2; omega)
  -- the new node
  have aN : s_at t (s_n s + 1) = s_dt s := by unfold s_at; rw [t2, pk_us]; exact nI_clamp (by omega)
  have lN : s_ln t (s_n s + 1) = s_h s - fm := by unfold s_ln; rw [t3, pk_us]; exact nI_clamp (by omega)
  have zN : s_sz t (s_n s + 1) = S := by unfold s_sz; rw [t4, pk_us]; exact nI_clamp (by omega)
  have hsN : s_hs t (s_n s + 1) = hN := by unfold s_hs; rw [t7, pk_us]; exact nI_clamp (by omega)
  have cB : ∀ j, j < s_h s - fm → 1 ≤ s_hd s (fm + j) ∧ s_hd s (fm + j) ≤ s_n s := fun j hj => (hc (fm + j) (by omega) (by omega)).2
  have cR9 : ∀ j, j < s_h s - fm → t.2.2.1 9 (s_dt s + j) = nI (s_hd s (fm + j)) := fun j hj => by rw [t9, dTo_in hj, hhd]
  have cN : ∀ j, j < s_h s - fm → s_ch t (s_n s + 1) j = s_hd s (fm + j) := fun j hj => by
    unfold s_ch
    rw [aN, cR9 j hj]
    exact nI_clamp (by have := (cB j hj).2; omega)
  have e7 : ∀ y, 1 ≤ y → y ≤ s_n s → t.2.2.1 7 y = s.2.2.1 7 y := hE.2.2.1 7 (by decide)
  have hO : ∀ x, 1 ≤ x → x ≤ s_n t → nodeOK PM t x := by
    intro x h1 h2
    rw [tn] at h2
    by_cases cx : x = s_n s + 1
    · subst cx
      refine ⟨⟨by rw [aN, t2, pk_us], by rw [lN, t3, pk_us], by rw [zN, t4, pk_us], by rw [zN]; exact b4⟩, by rw [aN, lN, td]; exact Nat.le_refl _, ?_, ?_, ⟨by rw [hsN, t7, pk_us], by rw [hsN]; exact hh⟩, ?_, ?_⟩
      · intro j hj
        rw [lN] at hj
        rw [cN j hj, aN, cR9 j hj]
        have := cB j hj
        exact ⟨rfl, this.1, by omega⟩
      · rw [zN, lN, ← eS]
        refine congrArg (fun z => 1 + z) (sumN_eq (fun j hj => ?_))
        have := cB j hj
        rw [cN j hj]
        exact (e_sz hE this.1 this.2).symm
      · rw [t6, pk_us, m4.1, r6 hN hh, show t.2.2.1 7 (s_n s + 1) = nI hN from by rw [t7, pk_us], show s_n s + 1 - 1 = s_n s by omega]
        exact congrArg nI (pv_eq (fun y g1 g2 => (e7 y g1 g2).symm))
      · have kN : s_kd t (s_n s + 1) = k := by unfold s_kd; rw [t0, pk_us]
        have oN : s_no t (s_n s + 1) = o := by unfold s_no; rw [t1, pk_us]
        rw [kN, oN, lN]
        refine nfR_k hnf cN (fun j hj => ?_) (fun j hj h6 => ?_)
        · have := cB j hj
          exact e_kd hE this.1 this.2
        · have q := cB j hj
          have oy := r5 _ q.1 q.2
          have el := nf_len oy.2.2.2.2.2.2 (Or.inl h6)
          have q2 := oy.2.2.1 0 (by omega)
          show s_kd t (s_ch t (s_hd s (fm + j)) 0) = s_kd s (s_ch s (s_hd s (fm + j)) 0)
          rw [e_ch hE q.1 q.2 oy (by omega)]
          exact e_kd hE q2.2.1 (by omega)
    · exact nodeOK_ext hE r5 h1 (by omega)
  have hH : ∀ h, h < 4096 → t.2.2.1 8 h = nI (pv (t.2.2.1 7) (nI h) (s_n t)) := by
    intro h hlt
    rw [tn]
    show _ = nI (ite _ _ _)
    rw [show t.2.2.1 7 (s_n s + 1) = nI hN from by rw [t7, pk_us]]
    by_cases c : h = hN
    · subst c
      rw [if_pos rfl, t8, pk_us]
    · rw [if_neg (fun z => c ((nI_eq (by omega) (by omega)).mp z).symm), t8, pk_un c, m4.1, r6 h hlt]
      exact congrArg nI (pv_eq (fun y g1 g2 => (e7 y g1 g2).symm))
  refine ⟨⟨fun j hj => ?_, ⟨by rw [tc, m3.1]; exact r2.1, by rw [tc, m3.2.2]; exact r2.2⟩, ⟨by rw [tc, m2.1]; exact q9, ?_⟩, ⟨by rw [tc, m3.2.1]; exact r4.1, by rw [th, tc, m3.2.1]; exact Nat.le_trans hf r4.2⟩, hO, hH⟩, hE, ⟨by rw [tn]; omega, by rw [td]; omega, th, tp⟩, ⟨by rw [t10, m4.2.1], by rw [t11, m4.2.2]⟩, ?_, ?_, ?_⟩
  · rw [tc, (m1 j hj).1, tn]
    exact ⟨q1 j hj, (mx_b (n := s_n s + 1) (N := s.2.1 j)).2⟩
  · rw [tc, m2.1, td]
    exact (mx_b (n := s_dt s + (s_h s - fm)) (N := s.2.1 9)).2
  · rw [m5, tn]; omega
  · rw [m5]
    exact ⟨by unfold s_kd; rw [t0, pk_us], by unfold s_no; rw [t1, pk_us], lN, cN⟩
  · rw [m5, eS]; exact zN
end NEW9

