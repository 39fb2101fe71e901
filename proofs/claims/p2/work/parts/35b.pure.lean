/-! The desk's blocks: the thesis of an open one lies in the pool. -/
def tAll (cR : ClassId) (pl : va_W) (bc : Int32) (BS : Nat → BC) (TS : Nat → FR) : Prop := ∀ i : Nat, i < bc.toNatClampNeg → i < 40 → ∃ t : Nat, (BS i).2.1 = some t ∧ fIn cR pl t (TS i)
def fsUp (FS : Nat → FR) (k : Nat) (F : FR) : Nat → FR := fun i => if i = k then F else FS i
def bsUp (BS : Nat → BC) (k : Nat) (B : BC) : Nat → BC := fun i => if i = k then B else BS i
def bInj (BA : Nat → Option Nat) : Prop := ∀ i j : Nat, i < 40 → j < 40 → BA i = BA j → i = j
theorem i40 : (40 : Int32).toInt = 40 := by decide
theorem i1000 : (1000 : Int32).toInt = 1000 := by decide
theorem open_bnd {bc : Int32} {BA : Nat → Option Nat} {b : Nat} (e : q_openB bc BA = some b) : ¬ bc ≤ 0 ∧ ¬ 40 < bc ∧ BA (bc - 1).toNatClampNeg = some b := by
  unfold q_openB at e
  by_cases c1 : bc ≤ 0
  · rw [if_pos c1] at e; cases e
  · rw [if_neg c1] at e
    by_cases c2 : 40 < bc
    · rw [if_pos c2] at e; cases e
    · rw [if_neg c2] at e; exact ⟨c1, c2, e⟩
theorem open_ix {bc : Int32} (h0 : ¬ bc ≤ 0) (h1 : ¬ 40 < bc) : (bc - 1).toNatClampNeg < bc.toNatClampNeg ∧ (bc - 1).toNatClampNeg < 40 ∧ (bc - 1).toNatClampNeg + 1 = bc.toNatClampNeg := by
  have q1 := i_nle h0; have q2 := i_nlt h1
  rw [i0] at q1; rw [i40] at q2
  have e : (bc - 1).toInt = bc.toInt - 1 := i_sub rfl i1 (by omega) (by omega)
  rw [i_clamp, i_clamp, e]
  omega
theorem bReady0 {cR : ClassId} {pl : va_W} {BA : Nat → Option Nat} {BS : Nat → BC} {bc : Int32} {b : Nat} {TS : Nat → FR} (hB : bAll pl BA BS) (hT : tAll cR pl bc BS TS) (e : q_openB bc BA = some b) :
    ∃ i o : Nat, (bTop bc BS).2.1 = some o ∧ pl[i]? = some (b, .inr (0, [.int (bTop bc BS).1, .ref o, .int (bTop bc BS).2.2.1, .int (bTop bc BS).2.2.2.1, va_rf (bTop bc BS).2.2.2.2])) ∧ fIn cR pl o (TS (bc - 1).toNatClampNeg) := by
  obtain ⟨h0, h1, h2⟩ := open_bnd e
  obtain ⟨k1, k2, _⟩ := open_ix h0 h1
  obtain ⟨o, ho, hf⟩ := hT _ k1 k2
  obtain ⟨i, hi⟩ := bOpen hB e
  refine ⟨i, o, ho, ?_, hf⟩
  rw [hi]
  show some (b, Sum.inr (0, [.int (bTop bc BS).1, va_rf (bTop bc BS).2.1, .int (bTop bc BS).2.2.1, .int (bTop bc BS).2.2.2.1, va_rf (bTop bc BS).2.2.2.2])) = _
  rw [show (bTop bc BS).2.1 = some o from ho]
  rfl
theorem bReady {cR : ClassId} {pl : va_W} {BA : Nat → Option Nat} {BS : Nat → BC} {bc : Int32} {b : Nat} {TS : Nat → FR} (hB : bAll pl BA BS) (hT : tAll cR pl bc BS TS) (e : q_openB bc BA = some b) :
    ∃ i o : Nat, (bTop bc BS).2.1 = some o ∧ pl[i]? = some (b, .inr (0, [.int (bTop bc BS).1, .ref o, .int (bTop bc BS).2.2.1, .int (bTop bc BS).2.2.2.1, va_rf (bTop bc BS).2.2.2.2])) ∧ fIn cR (pl.eraseIdx i) o (TS (bc - 1).toNatClampNeg) := by
  obtain ⟨i, o, h1, h2, h3⟩ := bReady0 hB hT e
  exact ⟨i, o, h1, h2, fIn_erase (by decide) h2 h3⟩
theorem dAll_erase {cR : ClassId} {pl : va_W} {pr : Int32} {DA : Nat → Option Nat} {DS : Nat → FR} {i b ci : Nat} {vs : List Value} (hc : ¬ ci = 1) (hi : pl[i]? = some (b, .inr (ci, vs))) (h : dAll cR pl pr DA DS) : dAll cR (pl.eraseIdx i) pr DA DS := fun x a e => fIn_erase hc hi (h x a e)
theorem dAll_grow {cR : ClassId} {pl pl' : va_W} {pr : Int32} {DA : Nat → Option Nat} {DS : Nat → FR} (h : dAll cR pl pr DA DS) : dAll cR (pl ++ pl') pr DA DS := fun x a e => fIn_grow (h x a e)
theorem fAll_grow {cR : ClassId} {pl pl' : va_W} {fc : Int32} {FA : Nat → Option Nat} {FS : Nat → FR} (h : fAll cR pl fc FA FS) : fAll cR (pl ++ pl') fc FA FS := fun x a e => fIn_grow (h x a e)
theorem tAll_grow {cR : ClassId} {pl pl' : va_W} {bc : Int32} {BS : Nat → BC} {TS : Nat → FR} (h : tAll cR pl bc BS TS) : tAll cR (pl ++ pl') bc BS TS := fun i h1 h2 => by
  obtain ⟨t, e, f⟩ := h i h1 h2
  exact ⟨t, e, fIn_grow f⟩
theorem bIn_grow {pl pl' : va_W} {b : Nat} {B : BC} (h : bIn pl b B) : bIn (pl ++ pl') b B := by
  obtain ⟨i, hi⟩ := h
  exact ⟨i, by rw [List.getElem?_append_left (List.getElem?_eq_some_iff.mp hi).1]; exact hi⟩
theorem bAll_grow {pl pl' : va_W} {BA : Nat → Option Nat} {BS : Nat → BC} (h : bAll pl BA BS) : bAll (pl ++ pl') BA BS := fun i hi => by
  obtain ⟨b, e, f⟩ := h i hi
  exact ⟨b, e, bIn_grow f⟩
theorem fAll_keep {cR : ClassId} {po : va_W} {fc : Int32} {FA : Nat → Option Nat} {FS : Nat → FR} {o q : Nat} {f : Nat → Int32} {n : Int32} (hI : fAll cR po fc FA FS) (hfc : ¬ fc < 0) (h1 : fc < 1000) (hk : k_ok1 n) :
    fAll cR (po ++ [(o, .inr (1, [.ref q, .int (fm_whole (newC f n) n.toNatClampNeg), .int (fm (newC f n) n.toNatClampNeg).2])), (q, .inl (cR, n.toNatClampNeg, .inl (newC f n)))]) (fc + 1) (va_up FA (fc.toNatClampNeg) (some o)) (fsUp FS fc.toNatClampNeg (n.toNatClampNeg, newC f n)) := by
  intro x a e
  have q1 := i_nlt hfc; have q2 := i_lt h1
  rw [i0] at q1; rw [i1000] at q2
  have ef : (fc + 1).toInt = fc.toInt + 1 := i_add rfl i1 (by omega) (by omega)
  unfold q_formAt at e
  by_cases c1 : x < 0
  · rw [if_pos c1] at e; cases e
  rw [if_neg c1] at e
  by_cases c2 : fc + 1 ≤ x
  · rw [if_pos c2] at e; cases e
  rw [if_neg c2] at e
  by_cases c3 : 1000 ≤ x
  · rw [if_pos c3] at e; cases e
  rw [if_neg c3] at e
  have g1 := i_nlt c1; have g2 := i_nle c2; have g3 := i_nle c3
  rw [i0] at g1; rw [ef] at g2; rw [i1000] at g3
  by_cases c4 : x.toNatClampNeg = fc.toNatClampNeg
  · have ea : va_up FA fc.toNatClampNeg (some o) x.toNatClampNeg = some o := by unfold va_up; rw [if_pos c4]
    rw [ea] at e
    cases e
    have eF : fsUp FS fc.toNatClampNeg (n.toNatClampNeg, newC f n) x.toNatClampNeg = (n.toNatClampNeg, newC f n) := by unfold fsUp; rw [if_pos c4]
    rw [eF]
    have k1 := i_le hk.1; have k2 := i_le hk.2
    rw [i1] at k1; rw [show (100 : Int32).toInt = 100 from by decide] at k2
    refine ⟨⟨by show 1 ≤ n.toNatClampNeg; rw [i_clamp]; omega, by show n.toNatClampNeg ≤ 512; rw [i_clamp]; omega⟩, po.length, po.length + 1, q, ?_, ?_⟩
    · rw [List.getElem?_append_right (Nat.le_refl _), Nat.sub_self]; rfl
    · rw [List.getElem?_append_right (by omega), show po.length + 1 - po.length = 1 by omega]; rfl
  · have ea : va_up FA fc.toNatClampNeg (some o) x.toNatClampNeg = FA x.toNatClampNeg := by unfold va_up; rw [if_neg c4]
    rw [ea] at e
    have eF : fsUp FS fc.toNatClampNeg (n.toNatClampNeg, newC f n) x.toNatClampNeg = FS x.toNatClampNeg := by unfold fsUp; rw [if_neg c4]
    rw [eF]
    refine fIn_grow (hI x a ?_)
    unfold q_formAt
    rw [if_neg c1, if_neg ?_, if_neg c3]
    · exact e
    · intro z
      have z1 := i_le z
      apply c4
      rw [i_clamp, i_clamp]
      omega
theorem gb_P2 {D : va_G} {cl : List vw_C} {X po Y : va_W} {H : Heap} {i : Nat} {c : Nat × va_E} (hi : i < po.length) (h : va_P D cl ((X ++ [c]) ++ (po.eraseIdx i ++ Y)) H) : va_P D cl (X ++ (po.set i c ++ Y)) H := by
  have e1 : (po ++ Y).eraseIdx i = po.eraseIdx i ++ Y := List.eraseIdx_append_of_lt_length hi Y
  have e2 : (po ++ Y).set i c = po.set i c ++ Y := List.set_append_left i c hi
  rw [← e1] at h
  rw [← e2]
  exact gb_P (by rw [List.length_append]; omega) h
theorem gb_D2 {A : Nat → Prop} {X po Y : va_W} {i : Nat} {c : Nat × va_E} (hi : i < po.length) (h : va_D A ((X ++ [c]) ++ (po.eraseIdx i ++ Y))) : va_D A (X ++ (po.set i c ++ Y)) := by
  have e1 : (po ++ Y).eraseIdx i = po.eraseIdx i ++ Y := List.eraseIdx_append_of_lt_length hi Y
  have e2 : (po ++ Y).set i c = po.set i c ++ Y := List.set_append_left i c hi
  rw [← e1] at h
  rw [← e2]
  exact gb_D (by rw [List.length_append]; omega) h
/-- what a step leaves: a note more in a NOW, or the thesis changed, or nothing changed but the count of misfits -/
def stp (cR : ClassId) (ki cn : Int32) (fo : Option Nat) (sd0 : RS) (F1 : FR) (pr : Int32) (DA : Nat → Option Nat) (DS : Nat → FR) (bk : Int32) (la : Option Nat) (o1 : Nat) (nc mi : Int32) (w sd : RS) (v0 b1 : Int32) (th1 : Nat) (la1 : Option Nat) (nc1 mi1 : Int32) (w1 sd1 : RS) (Y : va_W) : Prop :=
  (bk = 1 ∧ v0 = 1 ∧ mi1 = mi ∧ nc1 = nc + 1 ∧ th1 = o1 ∧ w1 = w ∧ sd1 = sd ∧ ∃ nn : Nat, la1 = some nn ∧ Y = [(nn, .inr (2, [.int ki, .int cn, va_rf fo, va_rf la]))]) ∨
  (¬ bk = 1 ∧ nc1 = nc ∧ la1 = la ∧ mi1 = (if v0 = 0 then mi + 1 else mi) ∧ ch_side ki cn sd0 = sd1 ∧ ch_work ki cn sd1.1 sd1.2.1 sd1.2.2 pr DA DS (r_load F1.2 F1.1 w.1 w.2.1 w.2.2) = (b1, w1) ∧ (r_ok w1.2.1 ∧ r_ok sd1.2.1) ∧
    ((v0 = 0 ∧ th1 = o1 ∧ Y = [] ∧ (b1 = 0 ∨ ¬ r_tooLarge w1.2.1 w1.2.2 = 0)) ∨
     (v0 = 1 ∧ (¬ b1 = 0 ∧ r_tooLarge w1.2.1 w1.2.2 = 0) ∧ ∃ q9 : Nat, Y = [(th1, .inr (1, [.ref q9, .int (fm_whole (newC w1.1 w1.2.1) w1.2.1.toNatClampNeg), .int (fm (newC w1.1 w1.2.1) w1.2.1.toNatClampNeg).2])), (q9, .inl (cR, w1.2.1.toNatClampNeg, .inl (newC w1.1 w1.2.1)))])))
theorem r_set_inv {a : Int32} {f f1 : Nat → Int32} {n1 z1 : Int32} (h : r_set a f = (f1, n1, z1)) : f1 = upd f ((0 : Int32).toNatClampNeg) a ∧ n1 = 1 ∧ z1 = 0 := by
  unfold r_set at h
  injection h with h1 h2
  injection h2 with h2 h3
  exact ⟨h1.symm, h2.symm, h3.symm⟩
/-- a new constant's form -/
abbrev cnF (cc : Int32) (f : Nat → Int32) : FR := ((1 : Int32).toNatClampNeg, newC (upd f ((0 : Int32).toNatClampNeg) (cc <<< ((4 : Int32) &&& 31) ||| 0)) 1)
abbrev cnCell (cR : ClassId) (o q : Nat) (cc : Int32) (f : Nat → Int32) : va_W := [(o, .inr (1, [.ref q, .int (fm_whole (cnF cc f).2 (cnF cc f).1), .int (fm (cnF cc f).2 (cnF cc f).1).2])), (q, .inl (cR, (cnF cc f).1, .inl (cnF cc f).2))]
theorem let_x {a : Int32} {E : String} {fc : Int32} {f f1 : Nat → Int32} {n1 z1 : Int32} {B : Prop} (hb : B) (h : r_ok n1 ∧ ((E = nIAE ∧ False) ∨ (E = nISE ∧ (¬ fc < 1000 ∨ ¬ r_tooLarge n1 z1 = 0) ∧ r_set a f = (f1, n1, z1) ∧ True))) {P : Prop} : r_ok n1 ∧ E = nISE ∧ ((¬ B ∧ P) ∨ (B ∧ ¬ fc < 1000 ∧ r_set a f = (f1, n1, z1))) := by
  obtain ⟨h1, ⟨_, h2⟩ | ⟨h2, h3, h4, _⟩⟩ := h
  · exact h2.elim
  · refine ⟨h1, h2, Or.inr ⟨hb, ?_, h4⟩⟩
    rcases h3 with h3 | h3
    · exact h3
    · obtain ⟨_, e1, e2⟩ := r_set_inv h4
      rw [e1, e2] at h3
      exact absurd smallOk h3
theorem stp_01 {cR : ClassId} {ki cn : Int32} {fo : Option Nat} {sd0 : RS} {F1 : FR} {pr : Int32} {DA : Nat → Option Nat} {DS : Nat → FR} {bk : Int32} {la : Option Nat} {o1 : Nat} {nc mi : Int32} {w sd : RS} {v0 b1 : Int32} {th1 : Nat} {la1 : Option Nat} {nc1 mi1 : Int32} {w1 sd1 : RS} {Y : va_W} (h : stp cR ki cn fo sd0 F1 pr DA DS bk la o1 nc mi w sd v0 b1 th1 la1 nc1 mi1 w1 sd1 Y) : v0 = 0 ∨ v0 = 1 := by
  rcases h with ⟨_, h, _⟩ | ⟨_, _, _, _, _, _, _, ⟨h, _⟩ | ⟨h, _⟩⟩
  · exact Or.inr h
  · exact Or.inl h
  · exact Or.inr h

theorem stp_r {cR : ClassId} {ki cn : Int32} {F1 F2 : FR} {pr : Int32} {DA : Nat → Option Nat} {DS : Nat → FR} {bk : Int32} {la la1 : Option Nat} {o1 th1 o2 : Nat} {nc mi nc1 mi1 v0 b1 : Int32} {f f1 g g1 : Nat → Int32} {n z n1 z1 k y k1 y1 : Int32} {po po1 : va_W} (h : ((bk = 1 ∧ v0 = 1 ∧ mi1 = mi ∧ nc1 = nc + 1 ∧ th1 = o1 ∧ (f1, n1, z1) = (f, n, z) ∧ (g1, k1, y1) = (g, k, y) ∧ ∃ nn : Nat, la1 = some nn ∧ po1 = po ++ [(nn, .inr (2, [.int ki, .int cn, .ref o2, va_rf la]))]) ∨ (¬ bk = 1 ∧ nc1 = nc ∧ la1 = la ∧ mi1 = (if v0 = 0 then mi + 1 else mi) ∧ ch_side ki cn (r_load F2.2 F2.1 g k y) = (g1, k1, y1) ∧ ch_work ki cn g1 k1 y1 pr DA DS (r_load F1.2 F1.1 f n z) = (b1, f1, n1, z1) ∧ (r_ok n1 ∧ r_ok k1) ∧ ((v0 = 0 ∧ th1 = o1 ∧ po1 = po ∧ (b1 = 0 ∨ ¬ r_tooLarge n1 z1 = 0)) ∨ (v0 = 1 ∧ (¬ b1 = 0 ∧ r_tooLarge n1 z1 = 0) ∧ ∃ q9 : Nat, po1 = po ++ [(th1, .inr (1, [.ref q9, .int (fm_whole (va_cpy f1 (fun _ => 0) ((0 : Int32).toNatClampNeg) ((0 : Int32).toNatClampNeg) (n1.toNatClampNeg)) n1.toNatClampNeg), .int ((fm (va_cpy f1 (fun _ => 0) ((0 : Int32).toNatClampNeg) ((0 : Int32).toNatClampNeg) (n1.toNatClampNeg)) n1.toNatClampNeg).2)])), (q9, .inl (cR, n1.toNatClampNeg, .inl (va_cpy f1 (fun _ => 0) ((0 : Int32).toNatClampNeg) ((0 : Int32).toNatClampNeg) (n1.toNatClampNeg))))]))))) : ∃ Y : va_W, po1 = po ++ Y ∧ stp cR ki cn (some o2) (r_load F2.2 F2.1 g k y) F1 pr DA DS bk la o1 nc mi (f, n, z) (g, k, y) v0 b1 th1 la1 nc1 mi1 (f1, n1, z1) (g1, k1, y1) Y := by
  rcases h with ⟨h1, h2, h3, h4, h5, h6, h7, nn, h8, h9⟩ | ⟨h1, h2, h3, h4, h5, h6, h7, h8⟩
  · exact ⟨_, h9, Or.inl ⟨h1, h2, h3, h4, h5, h6, h7, nn, h8, rfl⟩⟩
  · rcases h8 with ⟨a, b, c, d⟩ | ⟨a, b, q9, c⟩
    · exact ⟨[], by rw [c, List.append_nil], Or.inr ⟨h1, h2, h3, h4, h5, h6, h7, Or.inl ⟨a, b, rfl, d⟩⟩⟩
    · exact ⟨_, c, Or.inr ⟨h1, h2, h3, h4, h5, h6, h7, Or.inr ⟨a, b, q9, rfl⟩⟩⟩
theorem stp_n {cR : ClassId} {ki cn : Int32} {F1 : FR} {pr : Int32} {DA : Nat → Option Nat} {DS : Nat → FR} {bk : Int32} {la la1 : Option Nat} {o1 th1 : Nat} {nc mi nc1 mi1 v0 b1 : Int32} {f f1 g g1 : Nat → Int32} {n z n1 z1 k y k1 y1 : Int32} {po po1 : va_W} (h : ((bk = 1 ∧ v0 = 1 ∧ mi1 = mi ∧ nc1 = nc + 1 ∧ th1 = o1 ∧ (f1, n1, z1) = (f, n, z) ∧ (g1, k1, y1) = (g, k, y) ∧ ∃ nn : Nat, la1 = some nn ∧ po1 = po ++ [(nn, .inr (2, [.int ki, .int cn, .null, va_rf la]))]) ∨ (¬ bk = 1 ∧ nc1 = nc ∧ la1 = la ∧ mi1 = (if v0 = 0 then mi + 1 else mi) ∧ ch_side ki cn ((upd g ((0 : Int32).toNatClampNeg) 3, 1, 0)) = (g1, k1, y1) ∧ ch_work ki cn g1 k1 y1 pr DA DS (r_load F1.2 F1.1 f n z) = (b1, f1, n1, z1) ∧ (r_ok n1 ∧ r_ok k1) ∧ ((v0 = 0 ∧ th1 = o1 ∧ po1 = po ∧ (b1 = 0 ∨ ¬ r_tooLarge n1 z1 = 0)) ∨ (v0 = 1 ∧ (¬ b1 = 0 ∧ r_tooLarge n1 z1 = 0) ∧ ∃ q9 : Nat, po1 = po ++ [(th1, .inr (1, [.ref q9, .int (fm_whole (va_cpy f1 (fun _ => 0) ((0 : Int32).toNatClampNeg) ((0 : Int32).toNatClampNeg) (n1.toNatClampNeg)) n1.toNatClampNeg), .int ((fm (va_cpy f1 (fun _ => 0) ((0 : Int32).toNatClampNeg) ((0 : Int32).toNatClampNeg) (n1.toNatClampNeg)) n1.toNatClampNeg).2)])), (q9, .inl (cR, n1.toNatClampNeg, .inl (va_cpy f1 (fun _ => 0) ((0 : Int32).toNatClampNeg) ((0 : Int32).toNatClampNeg) (n1.toNatClampNeg))))]))))) : ∃ Y : va_W, po1 = po ++ Y ∧ stp cR ki cn none (upd g ((0 : Int32).toNatClampNeg) 3, 1, 0) F1 pr DA DS bk la o1 nc mi (f, n, z) (g, k, y) v0 b1 th1 la1 nc1 mi1 (f1, n1, z1) (g1, k1, y1) Y := by
  rcases h with ⟨h1, h2, h3, h4, h5, h6, h7, nn, h8, h9⟩ | ⟨h1, h2, h3, h4, h5, h6, h7, h8⟩
  · exact ⟨_, h9, Or.inl ⟨h1, h2, h3, h4, h5, h6, h7, nn, h8, rfl⟩⟩
  · rcases h8 with ⟨a, b, c, d⟩ | ⟨a, b, q9, c⟩
    · exact ⟨[], by rw [c, List.append_nil], Or.inr ⟨h1, h2, h3, h4, h5, h6, h7, Or.inl ⟨a, b, rfl, d⟩⟩⟩
    · exact ⟨_, c, Or.inr ⟨h1, h2, h3, h4, h5, h6, h7, Or.inr ⟨a, b, q9, rfl⟩⟩⟩
