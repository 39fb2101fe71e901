/-- the rounds of opening definitions that a step has left -/
def ct (ki cn : Int32) (g : Nat → Int32) (k y pr : Int32) (DA : Nat → Option Nat) (DS : Nat → FR) : Nat → Int32 → (Nat → Int32) → Int32 → Int32 → Int32 × RS
  | 0, b, f, n, z => (b, f, n, z)
  | t + 1, b, f, n, z => if b = 0 then (if d_had (o_def (k_pred (r_codeAt (r_place f) f n)) pr DA) = 0 then (b, o_row (k_pred (r_codeAt (r_place f) f n)) pr DA DS f n z) else
      ct ki cn g k y pr DA DS t (r_step ki cn g k y (o_row (k_pred (r_codeAt (r_place f) f n)) pr DA DS f n z).1 (o_row (k_pred (r_codeAt (r_place f) f n)) pr DA DS f n z).2.1 (o_row (k_pred (r_codeAt (r_place f) f n)) pr DA DS f n z).2.2).1
        (r_step ki cn g k y (o_row (k_pred (r_codeAt (r_place f) f n)) pr DA DS f n z).1 (o_row (k_pred (r_codeAt (r_place f) f n)) pr DA DS f n z).2.1 (o_row (k_pred (r_codeAt (r_place f) f n)) pr DA DS f n z).2.2).2.1
        (r_step ki cn g k y (o_row (k_pred (r_codeAt (r_place f) f n)) pr DA DS f n z).1 (o_row (k_pred (r_codeAt (r_place f) f n)) pr DA DS f n z).2.1 (o_row (k_pred (r_codeAt (r_place f) f n)) pr DA DS f n z).2.2).2.2.1
        (r_step ki cn g k y (o_row (k_pred (r_codeAt (r_place f) f n)) pr DA DS f n z).1 (o_row (k_pred (r_codeAt (r_place f) f n)) pr DA DS f n z).2.1 (o_row (k_pred (r_codeAt (r_place f) f n)) pr DA DS f n z).2.2).2.2.2) else (b, f, n, z)
section CT9
variable {ki cn : Int32} {g : Nat → Int32} {k y pr : Int32} {DA : Nat → Option Nat} {DS : Nat → FR} {t : Nat} {b : Int32} {f : Nat → Int32} {n z : Int32} {f1 : Nat → Int32} {n1 z1 : Int32} {f2 : Nat → Int32} {n2 z2 : Int32}
theorem ct_0 : ct ki cn g k y pr DA DS 0 b f n z = (b, f, n, z) := rfl
theorem ct_a (c : ¬ b = 0) : ct ki cn g k y pr DA DS (t + 1) b f n z = (b, f, n, z) := by
  show ite _ _ _ = _
  rw [if_neg c]
theorem ct_b (c : b = 0) (d : d_had (o_def (k_pred (r_codeAt (r_place f) f n)) pr DA) = 0) (e : o_row (k_pred (r_codeAt (r_place f) f n)) pr DA DS f n z = (f1, n1, z1)) : ct ki cn g k y pr DA DS (t + 1) b f n z = (b, f1, n1, z1) := by
  show ite _ _ _ = _
  rw [if_pos c, if_pos d, e]
theorem ct_c (c : b = 0) (d : ¬ d_had (o_def (k_pred (r_codeAt (r_place f) f n)) pr DA) = 0) (e : o_row (k_pred (r_codeAt (r_place f) f n)) pr DA DS f n z = (f1, n1, z1)) (e2 : (r_step ki cn g k y f1 n1 z1).2 = (f2, n2, z2)) : ct ki cn g k y pr DA DS (t + 1) b f n z = ct ki cn g k y pr DA DS t (r_step ki cn g k y f1 n1 z1).1 f2 n2 z2 := by
  show ite _ _ _ = _
  rw [if_pos c, if_neg d, e]
  show ct ki cn g k y pr DA DS t (r_step ki cn g k y f1 n1 z1).1 (r_step ki cn g k y f1 n1 z1).2.1 (r_step ki cn g k y f1 n1 z1).2.2.1 (r_step ki cn g k y f1 n1 z1).2.2.2 = _
  rw [e2]
end CT9

