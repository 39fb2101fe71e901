/-! Parts of a row, definitions opened, forms made. -/
def r_stop (f : Nat → Int32) (n : Int32) : Nat → Int32 → Int32 → Int32
  | 0, x, _ => x
  | t + 1, x, p => if p ≤ 0 then x else if n ≤ x then x else r_stop f n t (x + 1) (p + (k_many (r_codeAt x f n) - 1))
theorem r_stop_0 {f : Nat → Int32} {n x p : Int32} : r_stop f n 0 x p = x := rfl
theorem r_stop_a {f : Nat → Int32} {n x p : Int32} {t : Nat} (c : p ≤ 0) : r_stop f n (t + 1) x p = x := by
  show (if p ≤ 0 then x else _) = x
  rw [if_pos c]
theorem r_stop_b {f : Nat → Int32} {n x p : Int32} {t : Nat} (c : ¬ p ≤ 0) (d : n ≤ x) : r_stop f n (t + 1) x p = x := by
  show (if p ≤ 0 then x else if n ≤ x then x else _) = x
  rw [if_neg c, if_pos d]
theorem r_stop_c {f : Nat → Int32} {n x p : Int32} {t : Nat} (c : ¬ p ≤ 0) (d : ¬ n ≤ x) : r_stop f n (t + 1) x p = r_stop f n t (x + 1) (p + (k_many (r_codeAt x f n) - 1)) := by
  show (if p ≤ 0 then x else if n ≤ x then x else _) = _
  rw [if_neg c, if_neg d]
theorem i_inc {n x : Int32} (hn : r_ok n) (d : ¬ n ≤ x) : (x + 1).toInt = x.toInt + 1 := by
  have q := i_nle d; have q2 := i_le hn.2
  have q3 : -2147483648 ≤ x.toInt := Int32.le_toInt x
  rw [i512] at q2
  exact i_add rfl i1 (by omega) (by omega)
theorem r_stop_le {f : Nat → Int32} {n : Int32} (hn : r_ok n) : ∀ (t : Nat) (x p : Int32), x.toInt ≤ (r_stop f n t x p).toInt ∧ ((r_stop f n t x p).toInt ≤ x.toInt ∨ (r_stop f n t x p).toInt ≤ n.toInt) := by
  intro t
  induction t with
  | zero => intro x p; rw [r_stop_0]; exact ⟨Int.le_refl _, Or.inl (Int.le_refl _)⟩
  | succ t ih =>
    intro x p
    by_cases c : p ≤ 0
    · rw [r_stop_a c]; exact ⟨Int.le_refl _, Or.inl (Int.le_refl _)⟩
    · by_cases d : n ≤ x
      · rw [r_stop_b c d]; exact ⟨Int.le_refl _, Or.inl (Int.le_refl _)⟩
      · rw [r_stop_c c d]
        have q := ih (x + 1) (p + (k_many (r_codeAt x f n) - 1))
        have q1 := i_inc hn d
        have q2 := i_nle d
        omega
def r_starts (f : Nat → Int32) (n : Int32) : Nat → Int32 → Int32
  | 0, x => x
  | t + 1, x => r_starts f n t (r_stop f n 513 x 1)
def r_max (a b : Int32) : Int32 := if a < b then b else a
def r_partC : Int32 := (-1) <<< ((4 : Int32) &&& 31) ||| 2
def r_part (i : Int32) (f : Nat → Int32) (n z : Int32) : RS :=
  if r_isAll f = 0 then ((r_drop (r_starts f n i.toNatClampNeg 1) f n z).1, r_max 1 (r_stop f n 513 (r_starts f n i.toNatClampNeg 1) 1 - r_starts f n i.toNatClampNeg 1), (r_drop (r_starts f n i.toNatClampNeg 1) f n z).2.2)
  else r_body r_partC f n z
theorem r_body_no {c : Int32} {f : Nat → Int32} {n z : Int32} {f1 : Nat → Int32} {n1 z1 : Int32} (h : r_isAll f = 0) (e : r_body c f n z = (f1, n1, z1)) : f = f1 ∧ n = n1 ∧ z = z1 := by
  unfold r_isAll at h
  unfold r_body at e
  by_cases c1 : f ((0 : Int32).toNatClampNeg) = 8
  · rw [if_pos c1] at h; exact absurd h (by decide)
  · rw [if_neg c1] at e
    injection e with e1 e2
    injection e2 with e2 e3
    exact ⟨e1, e2, e3⟩
theorem r_starts_ge {f : Nat → Int32} {n : Int32} (hn : r_ok n) : ∀ (t : Nat) (x : Int32), 0 ≤ x.toInt → 0 ≤ (r_starts f n t x).toInt := by
  intro t
  induction t with
  | zero => intro x h; exact h
  | succ t ih =>
    intro x h
    refine ih _ ?_
    have q := (r_stop_le (f := f) hn 513 x 1).1
    omega
theorem i_part {i b : Int32} {t : Nat} (h : (i.toInt - b.toInt).toNat = t + 1) : ¬ i ≤ b ∧ (i.toInt - (b + 1).toInt).toNat = t := by
  have q3 : -2147483648 ≤ b.toInt := Int32.le_toInt b
  have q4 : i.toInt < 2147483648 := Int32.toInt_lt i
  have e : (b + 1).toInt = b.toInt + 1 := i_add rfl i1 (by omega) (by omega)
  refine ⟨fun c => ?_, by rw [e]; omega⟩
  have q := i_le c
  omega
theorem i_part0 {i b : Int32} (h : (i.toInt - b.toInt).toNat = 0) : i ≤ b := i_lem (by omega)
def r_open (g : Nat → Int32) (N : Nat) (f : Nat → Int32) (n z : Int32) : RS :=
  if r_place f = 1 then r_neg (mapTo (b_open (r_codeAt (r_place f + 1) f n) (r_codeAt (r_place f + 2) f n)) (r_load g N f n z).1 (r_load g N f n z).2.1.toNatClampNeg) (r_load g N f n z).2.1 (r_load g N f n z).2.2
  else (mapTo (b_open (r_codeAt (r_place f + 1) f n) (r_codeAt (r_place f + 2) f n)) (r_load g N f n z).1 (r_load g N f n z).2.1.toNatClampNeg, (r_load g N f n z).2.1, (r_load g N f n z).2.2)
theorem r_load_ok {g : Nat → Int32} {N : Nat} {f : Nat → Int32} {n z : Int32} (h : r_ok n) : r_ok (r_load g N f n z).2.1 := r_copy_ok h
theorem r_open_ok {g : Nat → Int32} {N : Nat} {f : Nat → Int32} {n z : Int32} (h : r_ok n) : r_ok (r_open g N f n z).2.1 := by
  unfold r_open
  by_cases c1 : r_place f = 1
  · rw [if_pos c1]; exact r_neg_ok (r_load_ok h)
  · rw [if_neg c1]; exact r_load_ok h
theorem r_part_ok {i : Int32} {f : Nat → Int32} {n z : Int32} (h : r_ok n) : r_ok (r_part i f n z).2.1 := by
  unfold r_part
  by_cases c1 : r_isAll f = 0
  · rw [if_pos c1]
    show r_ok (r_max 1 _)
    have q := r_stop_le (f := f) h 513 (r_starts f n i.toNatClampNeg 1) 1
    have q0 := r_starts_ge (f := f) h i.toNatClampNeg 1 (by decide)
    have q3 := i_le h.2
    rw [i512] at q3
    have q4 : (r_starts f n i.toNatClampNeg 1).toInt < 2147483648 := Int32.toInt_lt _
    have e : (r_stop f n 513 (r_starts f n i.toNatClampNeg 1) 1 - r_starts f n i.toNatClampNeg 1).toInt = (r_stop f n 513 (r_starts f n i.toNatClampNeg 1) 1).toInt - (r_starts f n i.toNatClampNeg 1).toInt := i_sub rfl rfl (by omega) (by omega)
    unfold r_max
    by_cases c2 : 1 < r_stop f n 513 (r_starts f n i.toNatClampNeg 1) 1 - r_starts f n i.toNatClampNeg 1
    · rw [if_pos c2]
      have q5 := i_lt c2
      rw [i1] at q5
      exact ⟨i_lem (by rw [i1]; omega), i_lem (by rw [i512, e]; omega)⟩
    · rw [if_neg c2]; decide
  · rw [if_neg c1]; exact r_body_ok h
/-- what a form's codes tell of it: whether a variable is free, how many loci -/
def fm_step (x : Int32) (s : Int32 × Int32) : Int32 × Int32 :=
  (if x &&& 15 = 2 then (if 0 ≤ x >>> ((4 : Int32) &&& 31) then s.1 else 1) else s.1, if x &&& 15 = 1 then (if x >>> ((4 : Int32) &&& 31) < s.2 then s.2 else x >>> ((4 : Int32) &&& 31) + 1) else s.2)
def fm (g : Nat → Int32) : Nat → Int32 × Int32
  | 0 => (0, 0)
  | i + 1 => fm_step (g i) (fm g i)
theorem fm_s {g : Nat → Int32} {i : Nat} : fm g (i + 1) = fm_step (g i) (fm g i) := rfl
def fm_whole (g : Nat → Int32) (N : Nat) : Int32 := if (fm g N).1 = 0 then 1 else 0
def k_term (x : Int32) : Int32 := if 2 < x &&& 15 then 0 else 1
theorem k_same {D : va_G} {cl : List vw_C} {tys : List (ClassId × FieldType)} {s : State} {a b : ClassId} (hK : va_K D cl tys s) (i j : Nat) (hi : tys[i]? = some (a, .int)) (hj : tys[j]? = some (b, .int)) : a = b := by
  have h1 : s.vm.findClass ("[" ++ FieldType.int.toString) = some a := (hK.2 i _ hi).2
  have h2 : s.vm.findClass ("[" ++ FieldType.int.toString) = some b := (hK.2 j _ hj).2
  rw [h1] at h2
  exact Option.some.inj h2
/-- sizes that a form may have -/
abbrev k_ok1 (k : Int32) : Prop := 1 ≤ k ∧ k ≤ 100
theorem k_cl {k : Int32} (h : k_ok1 k) : 1 ≤ k.toNatClampNeg ∧ k.toNatClampNeg ≤ 100 ∧ ¬ k < 0 ∧ ¬ k = 512 ∧ k < 512 := by
  have q1 := i_le h.1; have q2 := i_le h.2
  rw [i1] at q1; rw [i100] at q2
  have e : k.toNatClampNeg = k.toInt.toNat := i_clamp k
  refine ⟨by omega, by omega, i_nltm (by rw [i0]; omega), fun c => ?_, i_ltm (by rw [i512]; omega)⟩
  rw [c, i512] at q2; omega
theorem tw_xml : Cond.methodLink RX4 107 Lib.Math.max.name ∈ lw_G := G_in (by decide +kernel) rfl
theorem tw_xms : Cond.static Lib.Math.max.name ∈ lw_G := G_in (by decide +kernel) rfl
theorem tw_xmc : Cond.code Lib.Math.max.name Lib.Math.max.code 2 (some .int) ∈ lw_G := G_in (by decide +kernel) rfl

