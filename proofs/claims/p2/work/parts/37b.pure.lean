/-! The notes of a block: a chain in the pool. A note's record: kind, constant, the form's record if it has one. -/
abbrev NR : Type := Int32 × Int32 × Option FR
def nF (cR : ClassId) (pl : va_W) : Option Nat → Option FR → Prop
  | none, none => True
  | some t, some F => fIn cR pl t F
  | _, _ => False
def nCh (cR : ClassId) (pl : va_W) : List NR → Option Nat → Prop
  | [], a => a = none
  | r :: rs, a => ∃ (t i : Nat) (fo be : Option Nat), a = some t ∧ pl[i]? = some (t, .inr (2, [.int r.1, .int r.2.1, va_rf fo, va_rf be])) ∧ nF cR pl fo r.2.2 ∧ nCh cR pl rs be
def nAll (cR : ClassId) (pl : va_W) (bc : Int32) (BS : Nat → BC) (NS : Nat → List NR) : Prop := ∀ i : Nat, i < bc.toNatClampNeg → i < 40 → nCh cR pl (NS i) (BS i).2.2.2.2
theorem nTop {cR : ClassId} {pl : va_W} {BA : Nat → Option Nat} {BS : Nat → BC} {bc : Int32} {b : Nat} {NS : Nat → List NR} (h : nAll cR pl bc BS NS) (e : q_openB bc BA = some b) : nCh cR pl (NS (bc - 1).toNatClampNeg) (bTop bc BS).2.2.2.2 := by
  obtain ⟨h0, h1, _⟩ := open_bnd e
  obtain ⟨k1, k2, _⟩ := open_ix h0 h1
  exact h _ k1 k2
def t_form (ki : Int32) (o : Option FR) (f : Nat → Int32) (n z : Int32) : RS := match o with
  | none => (f, n, z)
  | some F => if ki = 2 then r_joinForm F.2 F.1 f n z else r_imply F.2 F.1 f n z
def t_bind (ki cn : Int32) (w : RS) : RS := if ki = 0 then r_bindAll cn w.1 w.2.1 w.2.2 else if ki = 4 then r_bindAll cn w.1 w.2.1 w.2.2 else w
def t_row (ki cn : Int32) (o : Option FR) (f : Nat → Int32) (n z : Int32) : RS := t_bind ki cn (t_form ki o f n z)
theorem t_bind_ok {ki cn : Int32} {w : RS} (h : r_ok w.2.1) : r_ok (t_bind ki cn w).2.1 := by
  unfold t_bind
  by_cases c1 : ki = 0
  · rw [if_pos c1]; exact r_bindAll_ok h
  · rw [if_neg c1]
    by_cases c2 : ki = 4
    · rw [if_pos c2]; exact r_bindAll_ok h
    · rw [if_neg c2]; exact h
theorem t_rowS_ok {ki cn : Int32} {F : FR} {f : Nat → Int32} {n z : Int32} (hN : F.1 ≤ 512) (h : r_ok n) : r_ok (t_row ki cn (some F) f n z).2.1 := by
  refine t_bind_ok ?_
  show r_ok (ite _ _ _ : RS).2.1
  by_cases c : ki = 2
  · rw [if_pos c]; exact r_joinCodes_ok (nI_512 hN) h
  · rw [if_neg c]; exact r_imply_ok hN h
theorem t_rowN_ok {ki cn : Int32} {f : Nat → Int32} {n z : Int32} (h : r_ok n) : r_ok (t_row ki cn none f n z).2.1 := t_bind_ok h
/-- what the notes of a NOW say, put before the row, from the last note on -/
def t_all : List NR → (Nat → Int32) → Int32 → Int32 → RS
  | [], f, n, z => (f, n, z)
  | r :: rs, f, n, z => t_all rs (t_row r.1 r.2.1 r.2.2 f n z).1 (t_row r.1 r.2.1 r.2.2 f n z).2.1 (t_row r.1 r.2.1 r.2.2 f n z).2.2
theorem t_all_c {r : NR} {rs : List NR} {f : Nat → Int32} {n z : Int32} {f1 : Nat → Int32} {n1 z1 : Int32} (e : t_row r.1 r.2.1 r.2.2 f n z = (f1, n1, z1)) : t_all (r :: rs) f n z = t_all rs f1 n1 z1 := by
  show t_all rs _ _ _ = _
  rw [e]
/-- what a CASE's form makes of the side row -/
def y_side (o : Option FR) (g : Nat → Int32) (k y : Int32) : RS := match o with
  | none => (upd g ((0 : Int32).toNatClampNeg) 3, 1, 0)
  | some F => r_load F.2 F.1 g k y
def y_neg (o : Option FR) (g : Nat → Int32) (k y : Int32) : RS := r_neg (y_side o g k y).1 (y_side o g k y).2.1 (y_side o g k y).2.2
def y_all : List NR → (Nat → Int32) → Int32 → Int32 → (Nat → Int32) → Int32 → Int32 → RS × RS
  | [], f, n, z, g, k, y => ((f, n, z), (g, k, y))
  | r :: rs, f, n, z, g, k, y => y_all rs (r_joinRow (y_neg r.2.2 g k y).1 (y_neg r.2.2 g k y).2.1 (y_neg r.2.2 g k y).2.2 f n z).1 (r_joinRow (y_neg r.2.2 g k y).1 (y_neg r.2.2 g k y).2.1 (y_neg r.2.2 g k y).2.2 f n z).2.1 (r_joinRow (y_neg r.2.2 g k y).1 (y_neg r.2.2 g k y).2.1 (y_neg r.2.2 g k y).2.2 f n z).2.2 (y_neg r.2.2 g k y).1 (y_neg r.2.2 g k y).2.1 (y_neg r.2.2 g k y).2.2
theorem y_all_c {r : NR} {rs : List NR} {f g : Nat → Int32} {n z k y : Int32} {f1 g1 : Nat → Int32} {n1 z1 k1 y1 : Int32} (e : y_neg r.2.2 g k y = (g1, k1, y1)) (e2 : r_joinRow g1 k1 y1 f n z = (f1, n1, z1)) : y_all (r :: rs) f n z g k y = y_all rs f1 n1 z1 g1 k1 y1 := by
  show y_all rs _ _ _ _ _ _ = _
  rw [e]
  show y_all rs (r_joinRow g1 k1 y1 f n z).1 _ _ _ _ _ = _
  rw [e2]
theorem y_neg_s {F : FR} {g : Nat → Int32} {k y : Int32} {ga g1 : Nat → Int32} {ka ya k1 y1 : Int32} (e : r_load F.2 F.1 g k y = (ga, ka, ya)) (e2 : r_neg ga ka ya = (g1, k1, y1)) : y_neg (some F) g k y = (g1, k1, y1) := by
  unfold y_neg y_side
  show r_neg (r_load F.2 F.1 g k y).1 (r_load F.2 F.1 g k y).2.1 (r_load F.2 F.1 g k y).2.2 = _
  rw [e]; exact e2
theorem set_same {po : va_W} {i : Nat} {c : Nat × va_E} (h : po[i]? = some c) : po.set i c = po := by
  obtain ⟨h1, h2⟩ := List.getElem?_eq_some_iff.mp h
  rw [← h2]; exact List.set_getElem_self h1
theorem b_shown_1 {bw bl : Int32} {la : Option Nat} {F : FR} (h : ¬ b_shown bw bl la F = 0) : b_shown bw bl la F = 1 := by
  unfold b_shown at h ⊢
  by_cases c1 : bw = 0
  · rw [if_pos c1] at h ⊢
    by_cases c2 : F.2 ((0 : Int32).toNatClampNeg) = 3
    · rw [if_pos c2]
    · rw [if_neg c2] at h; exact absurd rfl h
  · rw [if_neg c1] at h ⊢
    by_cases c2 : la.isSome = true
    · rw [if_pos c2] at h ⊢
      by_cases c3 : bl = 0
      · rw [if_pos c3]
      · rw [if_neg c3] at h; exact absurd rfl h
    · rw [if_neg c2] at h; exact absurd rfl h
def y_fin (L : List NR) (f g : Nat → Int32) (k y : Int32) : RS × RS := (r_neg (y_all L f 1 0 g k y).1.1 (y_all L f 1 0 g k y).1.2.1 (y_all L f 1 0 g k y).1.2.2, (y_all L f 1 0 g k y).2)
theorem y_fin_e {L : List NR} {f g : Nat → Int32} {k y : Int32} {fa f1 g1 : Nat → Int32} {na za n1 z1 k1 y1 : Int32} (e : y_all L f 1 0 g k y = ((fa, na, za), (g1, k1, y1))) (e2 : r_neg fa na za = (f1, n1, z1)) : y_fin L f g k y = ((f1, n1, z1), (g1, k1, y1)) := by
  unfold y_fin
  rw [e]
  show (r_neg fa na za, (g1, k1, y1)) = _
  rw [e2]
section TB9
variable {ki cn : Int32} {F : FR} {f : Nat → Int32} {n z : Int32} {r : RS} {fa : Nat → Int32} {na za : Int32} {o : Option FR}
theorem t_form_j (c : ki = 2) (e : r_joinForm F.2 F.1 f n z = r) : t_form ki (some F) f n z = r := by
  show ite _ _ _ = _
  rw [if_pos c]; exact e
theorem t_form_i (c : ¬ ki = 2) (e : r_imply F.2 F.1 f n z = r) : t_form ki (some F) f n z = r := by
  show ite _ _ _ = _
  rw [if_neg c]; exact e
theorem t_bind_a (c : ki = 0) (e : r_bindAll cn fa na za = r) : t_bind ki cn (fa, na, za) = r := by
  unfold t_bind; rw [if_pos c]; exact e
theorem t_bind_b (c : ¬ ki = 0) (c2 : ki = 4) (e : r_bindAll cn fa na za = r) : t_bind ki cn (fa, na, za) = r := by
  unfold t_bind; rw [if_neg c, if_pos c2]; exact e
theorem t_bind_c (c : ¬ ki = 0) (c2 : ¬ ki = 4) : t_bind ki cn (fa, na, za) = (fa, na, za) := by
  unfold t_bind; rw [if_neg c, if_neg c2]
theorem t_row_of (e : t_form ki o f n z = (fa, na, za)) (e2 : t_bind ki cn (fa, na, za) = r) : t_row ki cn o f n z = r := by
  unfold t_row; rw [e]; exact e2
end TB9

