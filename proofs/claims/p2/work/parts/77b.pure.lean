theorem k_sameB {D : va_G} {cl : List vw_C} {tys : List (ClassId × FieldType)} {s : State} {a b : ClassId} (hK : va_K D cl tys s) (i j : Nat) (hi : tys[i]? = some (a, .boolean)) (hj : tys[j]? = some (b, .boolean)) : a = b := by
  have h1 : s.vm.findClass ("[" ++ FieldType.boolean.toString) = some a := (hK.2 i _ hi).2
  have h2 : s.vm.findClass ("[" ++ FieldType.boolean.toString) = some b := (hK.2 j _ hj).2
  rw [h1] at h2
  exact Option.some.inj h2
/-! The reference when it is new. -/
def LS0 : Nat → Nat := fun j => [1024, 1024, 1024, 1024, 1024, 1024, 1024, 1024, 4096, 4096, 1024, 512].getD j 0
def LR0 : Nat → Nat := fun j => [30, 30, 40, 40, 40, 40, 40, 40, 40, 64, 64, 64, 64, 1000].getD j 0
def CR0 : Nat → Nat := fun j => bif Nat.beq j 4 then 1 else 0
abbrev nS0 (A : Nat → Nat) : St := (A, LS0, fun _ _ => 0, fun _ => 0)
abbrev nR0 (B : Nat → Nat) : Rt := (B, LR0, fun _ _ => 0, CR0)
theorem mI_0 (A B : Nat → Nat) : mI (fun _ => 3) (nS0 A) (nR0 B) 0 (104 * 0 + 2) (820 * 0) := by
  have e8 : ∀ k, k < 8 → LS0 k = 1024 := by decide
  refine ⟨⟨⟨fun k hk => ⟨⟨0, by decide, by show LS0 k = 1024 * 2 ^ 0; rw [e8 k hk]⟩, by show 0 < LS0 k; rw [e8 k hk]; decide⟩, ⟨rfl, rfl⟩, ⟨⟨2, by decide, rfl⟩, by show 0 < LS0 9; decide⟩, ⟨⟨0, by decide, rfl⟩, Nat.zero_le _⟩, fun x h1 h2 => absurd h2 (by show ¬ x ≤ 0; omega), fun h hh => rfl⟩, rfl, Nat.zero_le _, Nat.zero_le _⟩, ⟨Nat.zero_le _, fun x hx => absurd hx (Nat.not_lt_zero x)⟩, ⟨Nat.zero_le _, fun p hp => absurd hp (Nat.not_lt_zero p), fun p _ => ⟨rfl, rfl⟩⟩, fun p _ => Or.inl rfl, ⟨Nat.zero_le _, Nat.le_refl 1, Nat.zero_le _, Nat.zero_le _⟩, ⟨⟨show 64 ≤ LR0 9 by decide, show LR0 9 ≤ 1024 by decide, Nat.zero_le _⟩, ⟨show 64 ≤ LR0 10 by decide, show LR0 10 ≤ 1024 by decide, Nat.zero_le _⟩, ⟨show 64 ≤ LR0 11 by decide, show LR0 11 ≤ 1024 by decide, Nat.zero_le _⟩, ⟨show 64 ≤ LR0 12 by decide, show LR0 12 ≤ 1024 by decide, Nat.zero_le _⟩⟩, fun b hb => absurd hb (Nat.not_lt_zero b), fun b hb => absurd hb (Nat.not_lt_zero b), fun k hk => absurd hk (Nat.not_lt_zero k), fun k hk => absurd hk (Nat.not_lt_zero k)⟩
theorem gc_0 (A : Nat → Nat) : gc (nS0 A) = 208 ∧ gs (nS0 A) = 26624 := ⟨show LS0 0 / 64 + LS0 1 / 64 + LS0 2 / 64 + LS0 3 / 64 + LS0 4 / 64 + LS0 5 / 64 + LS0 6 / 64 + LS0 7 / 64 + LS0 9 / 64 + LS0 10 / 64 = 208 by decide, show 2 * (LS0 0 + LS0 1 + LS0 2 + LS0 3 + LS0 4 + LS0 5 + LS0 6 + LS0 7 + LS0 9 + LS0 10) = 26624 by decide⟩
section MI3
variable {PM : Nat → Nat} {s s1 : St} {r : Rt} {n a d x y t : Nat} {w k9 : Int32}
/-- from one call to the next -/
theorem mI_nx (h : mI PM s r n (104 * n + 2) (820 * n)) : mI PM s r (n + 1) (104 * (n + 1) + 2) (820 * (n + 1)) := mI_le h (by omega) (by omega) (by omega)
theorem mI_pub {F : Nat → Int32} {g c : Nat} (h : mI PM s r n (104 * n + 2) (820 * n)) (q : rI PM s1 ∧ sExt s s1 ∧ (s_n s1 ≤ s_n s + 104 ∧ s_dt s1 ≤ s_dt s + 820 ∧ s_h s1 = s_h s) ∧ fmO s1 F g) : mI PM s1 (r.1, r.2.1, sUp r.2.2.1 13 F, sUp (sUp r.2.2.2 6 c) 7 g) (n + 1) (104 * (n + 1) + 2) (820 * (n + 1)) :=
  mI_le (mI_form6 (mI_ext h q.1 q.2.1 q.2.2.1.2.2 q.2.2.1.1 q.2.2.1.2.1) q.2.2.2) (by omega) (by omega) (by omega)
theorem mI_bg {K T B W : Nat → Int32} {n1 : Nat} (h : mI PM s r n (104 * n + 2) (820 * n)) (hk : ¬ k9 = 3)
    (q : rI PM s1 ∧ sExt s s1 ∧ (s_n s1 ≤ s_n s + 1 ∧ s_dt s1 ≤ s_dt s ∧ s_h s1 = s_h s) ∧ ((K = r.2.2.1 2 ∧ T = r.2.2.1 3 ∧ B = r.2.2.1 5 ∧ W = r.2.2.1 7 ∧ n1 = r.2.2.2 1) ∨ (r.2.2.2 1 < 40 ∧ n1 = r.2.2.2 1 + 1 ∧ K = upd (r.2.2.1 2) (r.2.2.2 1) k9 ∧ B = upd (r.2.2.1 5) (r.2.2.2 1) (nI (r.2.2.2 2)) ∧ W = upd (r.2.2.1 7) (r.2.2.2 1) (vp_nar .boolean 0) ∧ ∃ x, T = upd (r.2.2.1 3) (r.2.2.2 1) (nI x) ∧ isF s1 x ∧ s_sz s1 x ≤ 100))) :
    mI PM s1 (r.1, r.2.1, sUp (sUp (sUp (sUp r.2.2.1 2 K) 3 T) 5 B) 7 W, sUp r.2.2.2 1 n1) (n + 1) (104 * (n + 1) + 2) (820 * (n + 1)) := by
  obtain ⟨q1, q2, ⟨q3, q4, q5⟩, q6⟩ := q
  have M := mI_ext (x := 1) (y := 0) h q1 q2 q5 q3 q4
  rcases q6 with ⟨e1, e2, e3, e4, e5⟩ | ⟨e0, e5, e1, e3, e4, t, e2, e6, e7⟩
  · subst e1 e2 e3 e4 e5
    exact mI_le (show mI PM s1 (r.1, r.2.1, sUp (sUp (sUp (sUp r.2.2.1 2 (r.2.2.1 2)) 3 (r.2.2.1 3)) 5 (r.2.2.1 5)) 7 (r.2.2.1 7), sUp r.2.2.2 1 (r.2.2.2 1)) n (104 * n + 2 + 1) (820 * n + 0) from M) (by omega) (by omega) (by omega)
  · subst e1 e2 e3 e4 e5
    exact mI_le (mI_begin M e0 (fun z => absurd z hk) ⟨t, rfl, e6, e7⟩) (by omega) (by omega) (by omega)
theorem mI_tk {T : Nat → Int32} {ft m : Nat} (h : mI PM s r n (104 * n + 2) (820 * n)) (q : rI PM s1 ∧ sExt s s1 ∧ (s_n s1 ≤ s_n s + 100 ∧ s_dt s1 ≤ s_dt s + 100 ∧ s_h s1 = s_h s) ∧ ft ≤ 1 ∧ (T = r.2.2.1 3 ∨ ∃ x, T = upd (r.2.2.1 3) (r.2.2.2 1 - 1) (nI x) ∧ isF s1 x ∧ s_sz s1 x ≤ 100)) : mI PM s1 (r.1, r.2.1, sUp r.2.2.1 3 T, sUp (sUp r.2.2.2 4 ft) 5 m) (n + 1) (104 * (n + 1) + 2) (820 * (n + 1)) := by
  obtain ⟨q1, q2, ⟨q3, q4, q5⟩, q6, q7⟩ := q
  have M : mI PM s1 (r.1, r.2.1, sUp r.2.2.1 3 T, sUp (sUp r.2.2.2 4 ft) 5 m) n (104 * n + 2 + 100) (820 * n + 100) := by
    obtain ⟨a1, b1, b2, b3, b4, b5, b6, b7, b8, b9⟩ := mI_ext h q1 q2 q5 q3 q4
    refine ⟨a1, b1, b2, b3, ⟨b4.1, q6, b4.2.2.1, b4.2.2.2⟩, b5, fun b hb => ?_, b7, b8, b9⟩
    obtain ⟨g1, g2⟩ := b6 b hb
    refine ⟨?_, g2⟩
    show ntF s1 (T b)
    rcases q7 with e | ⟨t, e, e1, e2⟩
    · rw [e]; exact g1
    · rw [e]
      by_cases c : b = r.2.2.2 1 - 1
      · rw [c, pk_us]; exact ⟨t, rfl, e1, e2⟩
      · rw [pk_un c]; exact g1
  exact mI_le M (by omega) (by omega) (by omega)
theorem mI_def {D : Nat → Int32} (h : mI PM s r n (104 * n + 2) (820 * n)) (q : D = r.2.2.1 1 ∨ ∃ p g : Nat, p < r.2.2.2 0 ∧ D = upd (r.2.2.1 1) p (nI g) ∧ isF s g ∧ s_sz s g ≤ 100 ∧ ∀ t, lB s (PM p) t g) : mI PM s (r.1, r.2.1, sUp r.2.2.1 1 D, r.2.2.2) (n + 1) (104 * (n + 1) + 2) (820 * (n + 1)) := by
  obtain ⟨a1, b1, ⟨c1, c2, c3⟩, b3, b4⟩ := mI_nx h
  rcases q with e | ⟨p, g, hp, e, g1, g2, g3⟩
  · subst e
    exact ⟨a1, b1, ⟨c1, c2, c3⟩, b3, b4⟩
  · refine ⟨a1, b1, ⟨c1, c2, fun p' hp' => ?_⟩, fun p' hp' => ?_, b4⟩
    · have hp2 : r.2.2.2 0 ≤ p' := hp'
      show PM p' = 3 ∧ D p' = 0
      rw [e, pk_un (by omega)]; exact c3 p' hp2
    · show D p' = 0 ∨ ∃ g : Nat, D p' = nI g ∧ isF s g ∧ s_sz s g ≤ 100 ∧ ∀ t, lB s (PM p') t g
      by_cases c : p' = p
      · rw [c, e, pk_us]; exact Or.inr ⟨g, rfl, g1, g2, g3⟩
      · rw [e, pk_un c]; exact b3 p' hp'
theorem nar1 : ¬ (vp_nar .boolean 1 : Int32) = 0 := by decide
theorem mI_cas {C Y W G : Nat → Int32} (h : mI PM s r n (104 * n + 2) (820 * n)) (q : (C = r.2.2.1 4 ∧ Y = r.2.2.1 6 ∧ W = r.2.2.1 7 ∧ G = r.2.2.1 8) ∨ (1 ≤ r.2.2.2 1 ∧ C = upd (r.2.2.1 4) (r.2.2.2 1 - 1) 0 ∧ Y = upd (r.2.2.1 6) (r.2.2.2 1 - 1) (nI (r.2.2.2 3)) ∧ W = upd (r.2.2.1 7) (r.2.2.2 1 - 1) (vp_nar .boolean 1) ∧ G = upd (r.2.2.1 8) (r.2.2.2 1 - 1) (vp_nar .boolean 1))) :
    mI PM s (r.1, r.2.1, sUp (sUp (sUp (sUp r.2.2.1 4 C) 6 Y) 7 W) 8 G, r.2.2.2) (n + 1) (104 * (n + 1) + 2) (820 * (n + 1)) := by
  obtain ⟨a1, b1, b2, b3, b4, b5, b6, b7, b8⟩ := mI_nx h
  rcases q with ⟨e1, e2, e3, e4⟩ | ⟨hb, e1, e2, e3, e4⟩
  · subst e1 e2 e3 e4
    exact ⟨a1, b1, b2, b3, b4, b5, b6, b7, b8⟩
  · have hw3 : r.2.2.2 3 ≤ 1000000 := by have l1 := b5.2.2.2; omega
    refine ⟨a1, b1, b2, b3, b4, b5, b6, fun b hb9 hw => ?_, b8⟩
    have hb' : b < r.2.2.2 1 := hb9
    have hw' : ¬ W b = 0 := hw
    show Y b = nI (Y b).toNatClampNeg ∧ C b = nI (C b).toNatClampNeg ∧ (Y b).toNatClampNeg + (C b).toNatClampNeg ≤ r.2.2.2 3 ∧ ∀ b', b' < b → ¬ W b' = 0 → (Y b').toNatClampNeg + (C b').toNatClampNeg ≤ (Y b).toNatClampNeg
    by_cases c : b = r.2.2.2 1 - 1
    · rw [e2, e1, c, pk_us, pk_us, nI_cl hw3]
      refine ⟨rfl, rfl, Nat.le_refl _, fun b' h1 h2 => ?_⟩
      rw [e3, pk_un (by omega)] at h2
      rw [pk_un (by omega), pk_un (by omega)]
      exact (b7 b' (by omega) h2).2.2.1
    · rw [e3, pk_un c] at hw'
      obtain ⟨g1, g2, g3, g4⟩ := b7 b hb' hw'
      rw [e2, e1, pk_un c, pk_un c]
      refine ⟨g1, g2, g3, fun b' h1 h2 => ?_⟩
      rw [e3, pk_un (by omega)] at h2
      rw [pk_un (by omega), pk_un (by omega)]
      exact g4 b' h1 h2
/-- a new predicate's number of terms -/
def pmUp (PM : Nat → Nat) (p m : Nat) : Nat → Nat := fun q => if q = p then m else PM q
theorem rI_pm {p m : Nat} (hR : rI PM s) (hp : PM p = 3) : rI (pmUp PM p m) s := by
  obtain ⟨r1, r2, r3, r4, r5, r6⟩ := hR
  refine ⟨r1, r2, r3, r4, fun x h1 h2 => ?_, r6⟩
  obtain ⟨o1, o2, o3, o4, o5, o6, o7⟩ := r5 x h1 h2
  refine ⟨o1, o2, o3, o4, o5, o6, ?_⟩
  rcases o7 with h | h | h | ⟨k, ⟨q, q1, q2, q3, q4⟩, k2⟩ | h | h | h
  · exact Or.inl h
  · exact Or.inr (Or.inl h)
  · exact Or.inr (Or.inr (Or.inl h))
  · refine Or.inr (Or.inr (Or.inr (Or.inl ⟨k, ⟨q, q1, q2, ?_, q4⟩, k2⟩)))
    unfold pmUp
    rw [if_neg (fun z => by rw [z, hp] at q3; omega)]; exact q3
  · exact Or.inr (Or.inr (Or.inr (Or.inr (Or.inl h))))
  · exact Or.inr (Or.inr (Or.inr (Or.inr (Or.inr (Or.inl h)))))
  · exact Or.inr (Or.inr (Or.inr (Or.inr (Or.inr (Or.inr h)))))
theorem mI_pred {P : Nat → Int32} {x9 : Int32} (h : mI PM s r n (104 * n + 2) (820 * n)) (hx0 : ¬ x9 < 0) (hx2 : x9 ≤ 2) (hp : r.2.2.2 0 < 30) (e : P = upd (r.2.2.1 0) (r.2.2.2 0) x9) : mI (pmUp PM (r.2.2.2 0) x9.toNatClampNeg) s (r.1, r.2.1, sUp r.2.2.1 0 P, sUp r.2.2.2 0 (r.2.2.2 0 + 1)) (n + 1) (104 * (n + 1) + 2) (820 * (n + 1)) := by
  obtain ⟨⟨a1, a2⟩, b1, ⟨c1, c2, c3⟩, b3, b4⟩ := mI_nx h
  have q1 := i_nlt hx0; have q2 := i_le hx2
  rw [i0] at q1; rw [show (2 : Int32).toInt = 2 from by decide] at q2
  have hm : x9.toNatClampNeg ≤ 2 := by rw [i_clamp]; omega
  refine ⟨⟨rI_pm a1 (c3 _ (Nat.le_refl _)).1, a2⟩, b1, ⟨hp, fun p hp9 => ?_, fun p hp9 => ?_⟩, fun p hp9 => ?_, b4⟩
  · have hp' : p < r.2.2.2 0 + 1 := hp9
    show P p = nI (pmUp PM (r.2.2.2 0) x9.toNatClampNeg p) ∧ pmUp PM (r.2.2.2 0) x9.toNatClampNeg p ≤ 2
    unfold pmUp
    by_cases c : p = r.2.2.2 0
    · rw [if_pos c, e, c, pk_us]
      refine ⟨?_, hm⟩
      obtain ⟨i, hi, ei⟩ := nI_of hx0
      rw [ei, nI_clamp hi]
    · rw [if_neg c, e, pk_un c]; exact c2 p (by omega)
  · have hp' : r.2.2.2 0 + 1 ≤ p := hp9
    show pmUp PM (r.2.2.2 0) x9.toNatClampNeg p = 3 ∧ r.2.2.1 1 p = 0
    unfold pmUp
    rw [if_neg (by omega)]; exact c3 p (by omega)
  · show r.2.2.1 1 p = 0 ∨ ∃ g : Nat, r.2.2.1 1 p = nI g ∧ isF s g ∧ s_sz s g ≤ 100 ∧ ∀ t, lB s (pmUp PM (r.2.2.2 0) x9.toNatClampNeg p) t g
    unfold pmUp
    by_cases c : p = r.2.2.2 0
    · exact Or.inl (c3 p (by omega)).2
    · rw [if_neg c]; exact b3 p hp9
end MI3

