/-! What the class's Row does, as functions of its codes f (512 places), its size n, its mark 'far' z. -/
abbrev RS : Type := (Nat → Int32) × Int32 × Int32
def r_set (c : Int32) (f : Nat → Int32) : RS := (upd f ((0 : Int32).toNatClampNeg) c, 1, 0)
def r_setNT (f : Nat → Int32) : RS := (upd (upd f ((0 : Int32).toNatClampNeg) 6) ((1 : Int32).toNatClampNeg) 3, 2, 0)
def r_copy (g : Nat → Int32) (N k : Int32) (f : Nat → Int32) (n z : Int32) : RS :=
  if k < 1 then (f, n, z) else if N < k then (f, n, z) else if k ≤ 512 then (va_cpy g f ((0 : Int32).toNatClampNeg) ((0 : Int32).toNatClampNeg) (k.toNatClampNeg), k, 0) else (f, n, z)
def r_add (c : Int32) (f : Nat → Int32) (n z : Int32) : RS := if 512 ≤ n then (f, n, z) else (upd f (n.toNatClampNeg) c, n + 1, z)
def r_put (c : Int32) (f : Nat → Int32) (n z : Int32) : RS :=
  if n < 240 then (upd (va_cpy f f ((0 : Int32).toNatClampNeg) ((1 : Int32).toNatClampNeg) (n.toNatClampNeg)) ((0 : Int32).toNatClampNeg) c, n + 1, z) else (f, n, 1)
def r_drop (k : Int32) (f : Nat → Int32) (n z : Int32) : RS :=
  if k < 0 then (f, n, z) else if k < n then (va_cpy f f (k.toNatClampNeg) ((0 : Int32).toNatClampNeg) ((n - k).toNatClampNeg), n - k, z) else (f, n, z)
def r_neg (f : Nat → Int32) (n z : Int32) : RS :=
  if z = 0 then (if f ((0 : Int32).toNatClampNeg) = 6 then r_drop 1 f n z else r_put 6 f n z) else (f, n, z)
def r_codeAt (i : Int32) (f : Nat → Int32) (n : Int32) : Int32 := if i < 0 then -1 else if n ≤ i then -1 else if 512 ≤ i then -1 else f (i.toNatClampNeg)
def r_isAnd (f : Nat → Int32) : Int32 := if f ((0 : Int32).toNatClampNeg) &&& 15 = 7 then 1 else 0
def r_isTrue (f : Nat → Int32) (z : Int32) : Int32 := if z = 0 then (if f ((0 : Int32).toNatClampNeg) = 3 then 1 else 0) else 0
def r_isNT (f : Nat → Int32) (z : Int32) : Int32 := if z = 0 then (if f ((0 : Int32).toNatClampNeg) = 6 then (if f ((1 : Int32).toNatClampNeg) = 3 then 1 else 0) else 0) else 0
def r_parts (c : Int32) : Int32 := if c &&& 15 = 7 then c >>> ((4 : Int32) &&& 31) else 1
/-- the size is one that a row can have -/
abbrev r_ok (n : Int32) : Prop := 1 ≤ n ∧ n ≤ 512
theorem i_le {x y : Int32} (h : x ≤ y) : x.toInt ≤ y.toInt := Int32.le_iff_toInt_le.mp h
theorem i_lt {x y : Int32} (h : x < y) : x.toInt < y.toInt := Int32.lt_iff_toInt_lt.mp h
theorem i_nle {x y : Int32} (h : ¬ x ≤ y) : y.toInt < x.toInt := Int.not_le.mp (fun q => h (Int32.le_iff_toInt_le.mpr q))
theorem i_nlt {x y : Int32} (h : ¬ x < y) : y.toInt ≤ x.toInt := Int.not_lt.mp (fun q => h (Int32.lt_iff_toInt_lt.mpr q))
theorem i_lem {x y : Int32} (h : x.toInt ≤ y.toInt) : x ≤ y := Int32.le_iff_toInt_le.mpr h
theorem i_ltm {x y : Int32} (h : x.toInt < y.toInt) : x < y := Int32.lt_iff_toInt_lt.mpr h
theorem i_nltm {x y : Int32} (h : y.toInt ≤ x.toInt) : ¬ x < y := fun q => Int.not_le.mpr (Int32.lt_iff_toInt_lt.mp q) h
theorem i_clamp (x : Int32) : x.toNatClampNeg = x.toInt.toNat := rfl
theorem i0 : (0 : Int32).toInt = 0 := by decide
theorem i1 : (1 : Int32).toInt = 1 := by decide
theorem i2 : (2 : Int32).toInt = 2 := by decide
theorem i100 : (100 : Int32).toInt = 100 := by decide
theorem i240 : (240 : Int32).toInt = 240 := by decide
theorem i512 : (512 : Int32).toInt = 512 := by decide
/-- sums and differences of small numbers -/
theorem i_add {x y : Int32} {a b : Int} (hx : x.toInt = a) (hy : y.toInt = b) (h1 : -2147483648 ≤ a + b) (h2 : a + b < 2147483648) : (x + y).toInt = a + b := by
  rw [Int32.toInt_add, hx, hy]
  exact Int.bmod_eq_of_le (by omega) (by omega)
theorem i_sub {x y : Int32} {a b : Int} (hx : x.toInt = a) (hy : y.toInt = b) (h1 : -2147483648 ≤ a - b) (h2 : a - b < 2147483648) : (x - y).toInt = a - b := by
  rw [Int32.toInt_sub, hx, hy]
  exact Int.bmod_eq_of_le (by omega) (by omega)
theorem r_in {n : Int32} (h : r_ok n) (h2 : ¬ 512 ≤ n) : vp_in n 512 := by
  have a1 := i_le h.1; have a2 := i_nle h2
  rw [i1] at a1; rw [i512] at a2
  exact vp_in_iff.mpr ⟨by omega, by omega⟩
theorem r_ge0 {n : Int32} (h : r_ok n) : ¬ n < 0 := by
  have a1 := i_le h.1
  rw [i1] at a1
  exact i_nltm (by rw [i0]; omega)
theorem r_cl {n : Int32} (h : r_ok n) : n.toNatClampNeg ≤ 512 := by
  have a1 := i_le h.1; have a2 := i_le h.2
  rw [i1] at a1; rw [i512] at a2
  rw [i_clamp]; omega
/-! A row's codes changed one by one up to a place. -/
def mapTo (g : Int32 → Int32) (F : Nat → Int32) (i : Nat) : Nat → Int32 := fun j => if j < i then g (F j) else F j
theorem mapTo_0 (g : Int32 → Int32) (F : Nat → Int32) : mapTo g F 0 = F := by
  funext j; unfold mapTo; rw [if_neg (by omega)]
theorem mapTo_at (g : Int32 → Int32) (F : Nat → Int32) (i : Nat) : mapTo g F i i = F i := by
  unfold mapTo; rw [if_neg (by omega)]
theorem mapTo_up {g : Int32 → Int32} {F : Nat → Int32} {i : Nat} {v : Int32} (h : g (F i) = v) : upd (mapTo g F i) i v = mapTo g F (i + 1) := by
  funext j
  by_cases e : j = i
  · subst e; rw [pk_us]; unfold mapTo; rw [if_pos (by omega), h]
  · rw [pk_un e]; unfold mapTo
    by_cases e2 : j < i
    · rw [if_pos e2, if_pos (by omega)]
    · rw [if_neg e2, if_neg (by omega)]
theorem mapTo_same {g : Int32 → Int32} {F : Nat → Int32} {i : Nat} (h : g (F i) = F i) : mapTo g F i = mapTo g F (i + 1) := by
  funext j
  unfold mapTo
  by_cases e2 : j < i
  · rw [if_pos e2, if_pos (by omega)]
  · by_cases e : j = i
    · subst e; rw [if_neg e2, if_pos (by omega), h]
    · rw [if_neg e2, if_neg (by omega)]
/-- what bindAll does to one code -/
def b_all (c : Int32) (x : Int32) : Int32 := if x = c then 2 else if x &&& 15 = 2 then ((x >>> ((4 : Int32) &&& 31) + 1) <<< ((4 : Int32) &&& 31)) ||| 2 else x
/-- what leaveBody does to one code -/
def b_body (c : Int32) (x : Int32) : Int32 := if x = 2 then c else if x &&& 15 = 2 then ((x >>> ((4 : Int32) &&& 31) - 1) <<< ((4 : Int32) &&& 31)) ||| 2 else x
/-- what open does to one code -/
def b_open (c d : Int32) (x : Int32) : Int32 := if x &&& 15 = 1 then (if x >>> ((4 : Int32) &&& 31) = 0 then c else d) else x
def r_bindAll (c : Int32) (f : Nat → Int32) (n z : Int32) : RS :=
  if z = 0 then (if r_isTrue f z = 0 then r_put 8 (mapTo (b_all c) f n.toNatClampNeg) n z else (f, n, z)) else (f, n, z)
def r_bindSome (c : Int32) (f : Nat → Int32) (n z : Int32) : RS :=
  let a := r_neg f n z; let b := r_bindAll c a.1 a.2.1 a.2.2; r_neg b.1 b.2.1 b.2.2
theorem r_nat {n : Int32} (h : r_ok n) : ∃ k : Nat, 1 ≤ k ∧ k ≤ 512 ∧ n = nI k ∧ n.toNatClampNeg = k := by
  have a1 := i_le h.1; have a2 := i_le h.2
  rw [i1] at a1; rw [i512] at a2
  obtain ⟨k, hk, e⟩ := nI_of (x := n) (r_ge0 h)
  refine ⟨k, ?_, ?_, e, by rw [e, nI_clamp hk]⟩
  · rw [e, nI_toInt hk] at a1; omega
  · rw [e, nI_toInt hk] at a2; omega
theorem r_put_ok {c : Int32} {f : Nat → Int32} {n z : Int32} (h : r_ok n) : r_ok (r_put c f n z).2.1 := by
  unfold r_put
  by_cases c1 : n < 240
  · rw [if_pos c1]
    have a1 := i_le h.1; have a2 := i_lt c1
    rw [i1] at a1; rw [i240] at a2
    have e : (n + 1).toInt = n.toInt + 1 := i_add rfl i1 (by omega) (by omega)
    exact ⟨i_lem (by rw [i1]; show _ ≤ (n + 1).toInt; omega), i_lem (by rw [i512]; show (n + 1).toInt ≤ _; omega)⟩
  · rw [if_neg c1]; exact h
theorem r_drop_ok {k : Int32} {f : Nat → Int32} {n z : Int32} (h : r_ok n) : r_ok (r_drop k f n z).2.1 := by
  unfold r_drop
  by_cases c1 : k < 0
  · rw [if_pos c1]; exact h
  · rw [if_neg c1]
    by_cases c2 : k < n
    · rw [if_pos c2]
      have a1 := i_le h.2; have a2 := i_lt c2; have a3 := i_nlt c1
      rw [i512] at a1; rw [i0] at a3
      have e : (n - k).toInt = n.toInt - k.toInt := i_sub rfl rfl (by omega) (by omega)
      exact ⟨i_lem (by rw [i1]; show _ ≤ (n - k).toInt; omega), i_lem (by rw [i512]; show (n - k).toInt ≤ _; omega)⟩
    · rw [if_neg c2]; exact h
theorem r_neg_ok {f : Nat → Int32} {n z : Int32} (h : r_ok n) : r_ok (r_neg f n z).2.1 := by
  unfold r_neg
  by_cases c1 : z = 0
  · rw [if_pos c1]
    by_cases c2 : f ((0 : Int32).toNatClampNeg) = 6
    · rw [if_pos c2]; exact r_drop_ok h
    · rw [if_neg c2]; exact r_put_ok h
  · rw [if_neg c1]; exact h
theorem r_bindAll_ok {c : Int32} {f : Nat → Int32} {n z : Int32} (h : r_ok n) : r_ok (r_bindAll c f n z).2.1 := by
  unfold r_bindAll
  by_cases c1 : z = 0
  · rw [if_pos c1]
    by_cases c2 : r_isTrue f z = 0
    · rw [if_pos c2]; exact r_put_ok h
    · rw [if_neg c2]; exact h
  · rw [if_neg c1]; exact h

def r_tooLarge (n z : Int32) : Int32 := if z = 0 then (if n ≤ 100 then 0 else 1) else 1
/-- the other row of codes is NOT TRUE -/
def r_fnt (g : Nat → Int32) (k : Int32) : Int32 := if k = 2 then (if g ((0 : Int32).toNatClampNeg) = 6 then (if g ((1 : Int32).toNatClampNeg) = 3 then 1 else 0) else 0) else 0
def r_bef (s o : Int32) (g : Nat → Int32) (k : Int32) (f : Nat → Int32) (n z : Int32) : RS :=
  if k - s < 0 then (f, n, 1) else if n - o < 0 then (f, n, 1) else if 1 + (k - s) + (n - o) ≤ 240 then
    (upd (va_cpy g (va_cpy f f (o.toNatClampNeg) ((1 + (k - s)).toNatClampNeg) ((n - o).toNatClampNeg)) (s.toNatClampNeg) ((1 : Int32).toNatClampNeg) ((k - s).toNatClampNeg)) ((0 : Int32).toNatClampNeg) ((r_parts (g ((0 : Int32).toNatClampNeg)) + r_parts (f ((0 : Int32).toNatClampNeg))) <<< ((4 : Int32) &&& 31) ||| 7), 1 + (k - s) + (n - o), z)
  else (f, n, 1)
def r_before (g : Nat → Int32) (k : Int32) (f : Nat → Int32) (n z : Int32) : RS :=
  if g ((0 : Int32).toNatClampNeg) &&& 15 = 7 then (if r_isAnd f = 0 then r_bef 1 0 g k f n z else r_bef 1 1 g k f n z) else (if r_isAnd f = 0 then r_bef 0 0 g k f n z else r_bef 0 1 g k f n z)
def r_joinCodes (g : Nat → Int32) (N k : Int32) (f : Nat → Int32) (n z : Int32) : RS :=
  if k < 1 then (f, n, z) else if N < k then (f, n, z) else if g ((0 : Int32).toNatClampNeg) = 3 then (f, n, z) else
  if r_fnt g k = 0 then (if r_isNT f z = 0 then (if r_isTrue f z = 0 then (if z = 0 then r_before g k f n z else (f, n, z)) else r_copy g N k f n z) else r_setNT f) else r_setNT f
def r_load (g : Nat → Int32) (N : Nat) (f : Nat → Int32) (n z : Int32) : RS := r_copy g (nI N) (nI N) f n z
def r_joinForm (g : Nat → Int32) (N : Nat) (f : Nat → Int32) (n z : Int32) : RS := r_joinCodes g (nI N) (nI N) f n z
def r_joinRow (g : Nat → Int32) (k y : Int32) (f : Nat → Int32) (n z : Int32) : RS := if y = 0 then r_joinCodes g 512 k f n z else if r_isNT f z = 0 then (f, n, 1) else (f, n, z)
def r_imply (g : Nat → Int32) (N : Nat) (f : Nat → Int32) (n z : Int32) : RS :=
  let a := r_neg f n z; let b := r_joinCodes g (nI N) (nI N) a.1 a.2.1 a.2.2; r_neg b.1 b.2.1 b.2.2
theorem ok_of {x : RS} {a : Nat → Int32} {b c : Int32} (e : x = (a, b, c)) (h : r_ok x.2.1) : r_ok b := by rw [e] at h; exact h
theorem g_in0 {N : Nat} (h : 1 ≤ N) : vp_in 0 N := vp_in_iff.mpr ⟨by rw [i0]; omega, by rw [i0]; omega⟩
theorem g_in1 {N : Nat} (h : 2 ≤ N) : vp_in 1 N := vp_in_iff.mpr ⟨by rw [i1]; omega, by rw [i1]; omega⟩
theorem i_nI {N : Nat} (h : N ≤ 512) : (nI N).toInt = N := nI_toInt (by omega)
theorem k_ok {k : Int32} {N : Nat} (hN : N ≤ 512) (c1 : ¬ k < 1) (c2 : ¬ nI N < k) : r_ok k ∧ k.toNatClampNeg ≤ N := by
  have q1 := i_nlt c1; have q2 := i_nlt c2
  rw [i1] at q1; rw [i_nI hN] at q2
  refine ⟨⟨i_lem (by rw [i1]; exact q1), i_lem (by rw [i512]; omega)⟩, ?_⟩
  rw [i_clamp]; omega
theorem bef_int {s o k n : Int32} (hs : s = 0 ∨ s = 1) (ho : o = 0 ∨ o = 1) (hk : r_ok k) (hn : r_ok n) :
    (k - s).toInt = k.toInt - s.toInt ∧ (n - o).toInt = n.toInt - o.toInt ∧ (1 + (k - s)).toInt = 1 + (k.toInt - s.toInt) ∧ (1 + (k - s) + (n - o)).toInt = 1 + (k.toInt - s.toInt) + (n.toInt - o.toInt) ∧ 1 ≤ k.toInt ∧ k.toInt ≤ 512 ∧ 1 ≤ n.toInt ∧ n.toInt ≤ 512 ∧ 0 ≤ s.toInt ∧ s.toInt ≤ 1 ∧ 0 ≤ o.toInt ∧ o.toInt ≤ 1 := by
  have a1 := i_le hk.1; have a2 := i_le hk.2; have a3 := i_le hn.1; have a4 := i_le hn.2
  rw [i1] at a1 a3; rw [i512] at a2 a4
  have b1 : 0 ≤ s.toInt ∧ s.toInt ≤ 1 := by rcases hs with h | h <;> rw [h] <;> decide
  have b2 : 0 ≤ o.toInt ∧ o.toInt ≤ 1 := by rcases ho with h | h <;> rw [h] <;> decide
  have e1 : (k - s).toInt = k.toInt - s.toInt := i_sub rfl rfl (by omega) (by omega)
  have e2 : (n - o).toInt = n.toInt - o.toInt := i_sub rfl rfl (by omega) (by omega)
  have e3 : (1 + (k - s)).toInt = 1 + (k.toInt - s.toInt) := i_add i1 e1 (by omega) (by omega)
  have e4 : (1 + (k - s) + (n - o)).toInt = 1 + (k.toInt - s.toInt) + (n.toInt - o.toInt) := i_add e3 e2 (by omega) (by omega)
  exact ⟨e1, e2, e3, e4, a1, a2, a3, a4, b1.1, b1.2, b2.1, b2.2⟩
theorem bef_1 {s o k n : Int32} (hs : s = 0 ∨ s = 1) (ho : o = 0 ∨ o = 1) (hk : r_ok k) (hn : r_ok n) : ¬ 1 + (k - s) < 0 := by
  obtain ⟨e1, e2, e3, e4, a1, a2, a3, a4, b1, b2, b3, b4⟩ := bef_int hs ho hk hn
  exact i_nltm (by rw [i0, e3]; omega)
theorem bef_2 {s o k n : Int32} (hs : s = 0 ∨ s = 1) (ho : o = 0 ∨ o = 1) (hk : r_ok k) (hn : r_ok n) : o.toNatClampNeg + (n - o).toNatClampNeg ≤ 512 := by
  obtain ⟨e1, e2, e3, e4, a1, a2, a3, a4, b1, b2, b3, b4⟩ := bef_int hs ho hk hn
  rw [i_clamp, i_clamp, e2]; omega
theorem bef_3 {s o k n : Int32} (hs : s = 0 ∨ s = 1) (ho : o = 0 ∨ o = 1) (hk : r_ok k) (hn : r_ok n) (h : 1 + (k - s) + (n - o) ≤ 240) : (1 + (k - s)).toNatClampNeg + (n - o).toNatClampNeg ≤ 512 := by
  obtain ⟨e1, e2, e3, e4, a1, a2, a3, a4, b1, b2, b3, b4⟩ := bef_int hs ho hk hn
  have q := i_le h
  rw [e4, i240] at q
  rw [i_clamp, i_clamp, e2, e3]; omega
theorem bef_4 {s o k n : Int32} {N : Nat} (hs : s = 0 ∨ s = 1) (ho : o = 0 ∨ o = 1) (hk : r_ok k) (hn : r_ok n) (h : k.toNatClampNeg ≤ N) : s.toNatClampNeg + (k - s).toNatClampNeg ≤ N := by
  obtain ⟨e1, e2, e3, e4, a1, a2, a3, a4, b1, b2, b3, b4⟩ := bef_int hs ho hk hn
  rw [i_clamp] at h
  rw [i_clamp, i_clamp, e1]; omega
theorem bef_5 {s o k n : Int32} (hs : s = 0 ∨ s = 1) (ho : o = 0 ∨ o = 1) (hk : r_ok k) (hn : r_ok n) : (1 : Int32).toNatClampNeg + (k - s).toNatClampNeg ≤ 512 + 1 := by
  obtain ⟨e1, e2, e3, e4, a1, a2, a3, a4, b1, b2, b3, b4⟩ := bef_int hs ho hk hn
  rw [i_clamp, i_clamp, e1, i1]; omega
theorem bef_6 {s o k n : Int32} (hs : s = 0 ∨ s = 1) (ho : o = 0 ∨ o = 1) (hk : r_ok k) (hn : r_ok n) (h : 1 + (k - s) + (n - o) ≤ 240) : (1 : Int32).toNatClampNeg + (k - s).toNatClampNeg ≤ 512 := by
  obtain ⟨e1, e2, e3, e4, a1, a2, a3, a4, b1, b2, b3, b4⟩ := bef_int hs ho hk hn
  have q := i_le h
  rw [e4, i240] at q
  rw [i_clamp, i_clamp, e1, i1]; omega
theorem r_add_ok {c : Int32} {f : Nat → Int32} {n z : Int32} (h : r_ok n) : r_ok (r_add c f n z).2.1 := by
  unfold r_add
  by_cases c1 : 512 ≤ n
  · rw [if_pos c1]; exact h
  · rw [if_neg c1]
    have a1 := i_le h.1; have a2 := i_nle c1
    rw [i1] at a1; rw [i512] at a2
    have e : (n + 1).toInt = n.toInt + 1 := i_add rfl i1 (by omega) (by omega)
    exact ⟨i_lem (by rw [i1]; show _ ≤ (n + 1).toInt; omega), i_lem (by rw [i512]; show (n + 1).toInt ≤ _; omega)⟩
theorem r_copy_ok {g : Nat → Int32} {N k : Int32} {f : Nat → Int32} {n z : Int32} (h : r_ok n) : r_ok (r_copy g N k f n z).2.1 := by
  unfold r_copy
  by_cases c1 : k < 1
  · rw [if_pos c1]; exact h
  · rw [if_neg c1]
    by_cases c2 : N < k
    · rw [if_pos c2]; exact h
    · rw [if_neg c2]
      by_cases c3 : k ≤ 512
      · rw [if_pos c3]; exact ⟨i_lem (i_nlt c1), c3⟩
      · rw [if_neg c3]; exact h
theorem r_bef_ok {s o : Int32} {g : Nat → Int32} {k : Int32} {f : Nat → Int32} {n z : Int32} (hs : s = 0 ∨ s = 1) (ho : o = 0 ∨ o = 1) (hk : r_ok k) (h : r_ok n) : r_ok (r_bef s o g k f n z).2.1 := by
  obtain ⟨e1, e2, e3, e4, a1, a2, a3, a4, b1, b2, b3, b4⟩ := bef_int hs ho hk h
  unfold r_bef
  by_cases c1 : k - s < 0
  · rw [if_pos c1]; exact h
  · rw [if_neg c1]
    by_cases c2 : n - o < 0
    · rw [if_pos c2]; exact h
    · rw [if_neg c2]
      by_cases c3 : 1 + (k - s) + (n - o) ≤ 240
      · rw [if_pos c3]
        have q := i_le c3
        rw [e4, i240] at q
        exact ⟨i_lem (by rw [i1]; show _ ≤ (1 + (k - s) + (n - o)).toInt; omega), i_lem (by rw [i512]; show (1 + (k - s) + (n - o)).toInt ≤ _; omega)⟩
      · rw [if_neg c3]; exact h
theorem r_before_ok {g : Nat → Int32} {k : Int32} {f : Nat → Int32} {n z : Int32} (hk : r_ok k) (h : r_ok n) : r_ok (r_before g k f n z).2.1 := by
  unfold r_before
  by_cases c1 : g ((0 : Int32).toNatClampNeg) &&& 15 = 7 <;> by_cases c2 : r_isAnd f = 0 <;> simp only [c1, c2, if_true, if_false] <;> exact r_bef_ok (by decide) (by decide) hk h
theorem r_joinCodes_ok {g : Nat → Int32} {N k : Int32} {f : Nat → Int32} {n z : Int32} (hN : N ≤ 512) (h : r_ok n) : r_ok (r_joinCodes g N k f n z).2.1 := by
  unfold r_joinCodes
  by_cases c1 : k < 1
  · rw [if_pos c1]; exact h
  · rw [if_neg c1]
    by_cases c2 : N < k
    · rw [if_pos c2]; exact h
    · rw [if_neg c2]
      have hk : r_ok k := ⟨i_lem (i_nlt c1), i_lem (Int.le_trans (i_nlt c2) (i_le hN))⟩
      by_cases c3 : g ((0 : Int32).toNatClampNeg) = 3
      · rw [if_pos c3]; exact h
      · rw [if_neg c3]
        by_cases c4 : r_fnt g k = 0
        · rw [if_pos c4]
          by_cases c5 : r_isNT f z = 0
          · rw [if_pos c5]
            by_cases c6 : r_isTrue f z = 0
            · rw [if_pos c6]
              by_cases c7 : z = 0
              · rw [if_pos c7]; exact r_before_ok hk h
              · rw [if_neg c7]; exact h
            · rw [if_neg c6]; exact r_copy_ok h
          · rw [if_neg c5]; exact (by decide : r_ok 2)
        · rw [if_neg c4]; exact (by decide : r_ok 2)
theorem nI_512 {N : Nat} (h : N ≤ 512) : nI N ≤ 512 := i_lem (by rw [i_nI h, i512]; omega)

