def d_part (F : FR) (i : Int32) (f : Nat → Int32) (n z : Int32) : RS := r_part i (r_load F.2 F.1 f n z).1 (r_load F.2 F.1 f n z).2.1 (r_load F.2 F.1 f n z).2.2
def d_bind (b c : Int32) (F : FR) (f : Nat → Int32) (n z : Int32) : RS :=
  if b = 0 then r_bindAll c (r_load F.2 F.1 f n z).1 (r_load F.2 F.1 f n z).2.1 (r_load F.2 F.1 f n z).2.2 else r_bindSome c (r_load F.2 F.1 f n z).1 (r_load F.2 F.1 f n z).2.1 (r_load F.2 F.1 f n z).2.2
theorem r_bindSome_ok {c : Int32} {f : Nat → Int32} {n z : Int32} (h : r_ok n) : r_ok (r_bindSome c f n z).2.1 := r_neg_ok (r_bindAll_ok (r_neg_ok h))
def d_about (F : FR) (y : Int32) : Int32 := if y = 0 then F.2 ((0 : Int32).toNatClampNeg) &&& 15 else if y = 1 then k_many (F.2 ((0 : Int32).toNatClampNeg)) else if y = 2 then nI F.1 else if y = 3 then k_mark (F.2 ((0 : Int32).toNatClampNeg)) else -1
def d_count (x fc pr bc mi cc : Int32) : Int32 := if x = 0 then fc else if x = 1 then pr else if x = 2 then bc else if x = 3 then mi else cc
/-- the numbers that count knows -/
def d_cnt (x : Int32) : Prop := x = 0 ∨ x = 1 ∨ x = 2 ∨ x = 3 ∨ x = 4
theorem pr_in {x : Int32} (h0 : ¬ x < 0) (h1 : x < 30) : vp_in x 30 := vp_in_iff.mpr ⟨by have q := i_nlt h0; rw [i0] at q; exact q, by have q := i_lt h1; rw [show (30 : Int32).toInt = 30 from by decide] at q; exact q⟩
theorem isSome_of {x : Option Nat} {a : Nat} (h : x = some a) : x.isSome = true := by rw [h]; rfl
theorem not_isSome {x : Option Nat} (h : x = none) : ¬ x.isSome = true := by rw [h]; exact Bool.noConfusion

