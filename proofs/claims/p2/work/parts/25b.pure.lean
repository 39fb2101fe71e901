def d_had (o : Option Nat) : Int32 := if o.isSome then 1 else 0
/-- NOT AND of F and NOT G -/
def d_impl (F G : FR) (f : Nat → Int32) (n z : Int32) : RS := r_imply F.2 F.1 (r_load G.2 G.1 f n z).1 (r_load G.2 G.1 f n z).2.1 (r_load G.2 G.1 f n z).2.2
theorem r_imply_ok {g : Nat → Int32} {N : Nat} (hN : N ≤ 512) {f : Nat → Int32} {n z : Int32} (h : r_ok n) : r_ok (r_imply g N f n z).2.1 := r_neg_ok (r_joinCodes_ok (nI_512 hN) (r_neg_ok h))
theorem d_impl_ok {F G : FR} (hN : F.1 ≤ 512) {f : Nat → Int32} {n z : Int32} (h : r_ok n) : r_ok (d_impl F G f n z).2.1 := r_imply_ok hN (r_load_ok h)
theorem r_joinRow_ok {g : Nat → Int32} {k y : Int32} {f : Nat → Int32} {n z : Int32} (h : r_ok n) : r_ok (r_joinRow g k y f n z).2.1 := by
  unfold r_joinRow
  by_cases c1 : y = 0
  · rw [if_pos c1]; exact r_joinCodes_ok (by decide) h
  · rw [if_neg c1]
    by_cases c2 : r_isNT f z = 0
    · rw [if_pos c2]; exact h
    · rw [if_neg c2]; exact h
def jn_or (F G : FR) (f : Nat → Int32) (n z : Int32) (g : Nat → Int32) (k y : Int32) : RS × RS :=
  let s1 := r_load F.2 F.1 g k y; let s2 := r_neg s1.1 s1.2.1 s1.2.2
  let w1 := r_load G.2 G.1 f n z; let w2 := r_neg w1.1 w1.2.1 w1.2.2
  let w3 := r_joinRow s2.1 s2.2.1 s2.2.2 w2.1 w2.2.1 w2.2.2
  (r_neg w3.1 w3.2.1 w3.2.2, s2)
def jn_iff (F G : FR) (f : Nat → Int32) (n z : Int32) (g : Nat → Int32) (k y : Int32) : RS × RS :=
  let s1 := d_impl F G g k y; let w1 := d_impl G F f n z
  (r_joinRow s1.1 s1.2.1 s1.2.2 w1.1 w1.2.1 w1.2.2, s1)
/-- what join leaves in the two rows -/
def jn (x : Int32) (F G : FR) (f : Nat → Int32) (n z : Int32) (g : Nat → Int32) (k y : Int32) : RS × RS :=
  if x = 0 then (r_neg (r_load F.2 F.1 f n z).1 (r_load F.2 F.1 f n z).2.1 (r_load F.2 F.1 f n z).2.2, (g, k, y))
  else if x = 1 then (r_joinForm F.2 F.1 (r_load G.2 G.1 f n z).1 (r_load G.2 G.1 f n z).2.1 (r_load G.2 G.1 f n z).2.2, (g, k, y))
  else if x = 2 then jn_or F G f n z g k y
  else if x = 3 then (d_impl F G f n z, (g, k, y))
  else if x = 4 then jn_iff F G f n z g k y
  else (r_set 3 f, (g, k, y))
theorem jn_ok {x : Int32} {F G : FR} (hF : F.1 ≤ 512) (hG : G.1 ≤ 512) {f : Nat → Int32} {n z : Int32} {g : Nat → Int32} {k y : Int32} (h : r_ok n) (hk : r_ok k) : r_ok (jn x F G f n z g k y).1.2.1 ∧ r_ok (jn x F G f n z g k y).2.2.1 := by
  unfold jn
  by_cases c0 : x = 0
  · rw [if_pos c0]; exact ⟨r_neg_ok (r_load_ok h), hk⟩
  · rw [if_neg c0]
    by_cases c1 : x = 1
    · rw [if_pos c1]; exact ⟨r_joinCodes_ok (nI_512 hF) (r_load_ok h), hk⟩
    · rw [if_neg c1]
      by_cases c2 : x = 2
      · rw [if_pos c2]; exact ⟨r_neg_ok (r_joinRow_ok (r_neg_ok (r_load_ok h))), r_neg_ok (r_load_ok hk)⟩
      · rw [if_neg c2]
        by_cases c3 : x = 3
        · rw [if_pos c3]; exact ⟨d_impl_ok hF h, hk⟩
        · rw [if_neg c3]
          by_cases c4 : x = 4
          · rw [if_pos c4]; exact ⟨r_joinRow_ok (d_impl_ok hG h), d_impl_ok hF hk⟩
          · rw [if_neg c4]; exact ⟨setOk, hk⟩
theorem orNone_some {P : FR → Int32} {x fc : Int32} {FA : Nat → Option Nat} {FS : Nat → FR} (h : ¬ q_orNone P x 1 fc FA FS = 0) (g : q_at P x fc FA FS = none) : False := by
  unfold q_orNone at h
  rw [if_neg (show ¬ (1 : Int32) = 0 from by decide), g] at h
  exact h rfl
theorem orNone_none {P : FR → Int32} {x fc : Int32} {FA : Nat → Option Nat} {FS : Nat → FR} {a : Nat} (h : ¬ q_orNone P x 0 fc FA FS = 0) (g : q_at P x fc FA FS = some a) : False := by
  unfold q_orNone at h
  rw [if_pos rfl] at h
  by_cases c : x = -1
  · have e := (q_at_form g).1
    unfold q_formAt at e
    rw [c, if_pos (by decide)] at e
    cases e
  · rw [if_neg c] at h; exact h rfl
def j_ok (x1 x2 x3 fc : Int32) (FA : Nat → Option Nat) (FS : Nat → FR) : Prop :=
  (¬ x1 < 0 ∧ x1 ≤ 5) ∧ ¬ q_orNone p_form x2 (if x1 = 5 then 0 else 1) fc FA FS = 0 ∧ ¬ q_orNone p_form x3 (if x1 = 5 then 0 else if x1 = 0 then 0 else 1) fc FA FS = 0

