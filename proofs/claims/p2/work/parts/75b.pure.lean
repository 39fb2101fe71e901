/-! What holds of the desk between two calls. -/
def dX (cR : ClassId) (po : va_W) (tr : Nat) (fc pr bc lf : Int32) (FA DA BA : Nat → Option Nat) (n k : Int32) (FS DS : Nat → FR) (BS : Nat → BC) (TS : Nat → FR) (NS : Nat → List NR) : Prop :=
  fAll cR po fc FA FS ∧ (∀ (i a : Nat), DA i = some a → fIn cR po a (DS i)) ∧ (bAll po BA BS ∧ tAll cR po bc BS TS ∧ nAll cR po bc BS NS) ∧ bInj BA ∧ (∃ F : FR, fIn cR po tr F) ∧ (r_ok n ∧ r_ok k) ∧ (¬ fc < 0 ∧ ¬ bc < 0 ∧ ¬ pr < 0) ∧ (lf = 0 ∨ lf = 1)
def dI (cR : ClassId) (po : va_W) (tr : Nat) (fc pr bc lf : Int32) (FA DA BA : Nat → Option Nat) (n k : Int32) : Prop := ∃ (FS DS : Nat → FR) (BS : Nat → BC) (TS : Nat → FR) (NS : Nat → List NR), dX cR po tr fc pr bc lf FA DA BA n k FS DS BS TS NS
section DI
variable {cR : ClassId} {po Y : va_W} {tr b i o q o1 th1 a : Nat} {fc pr bc lf lf1 : Int32} {FA DA BA : Nat → Option Nat} {n k n1 k1 z1 : Int32} {f1 : Nat → Int32} {FS DS : Nat → FR} {BS : Nat → BC} {TS : Nat → FR} {NS : Nat → List NR} {vs : List Value}
theorem dX_i (h : dX cR po tr fc pr bc lf FA DA BA n k FS DS BS TS NS) : dI cR po tr fc pr bc lf FA DA BA n k := ⟨FS, DS, BS, TS, NS, h⟩
theorem dAll_of (h : ∀ (i a : Nat), DA i = some a → fIn cR po a (DS i)) : dAll cR po pr DA DS := fun x a e => by
  unfold o_def at e
  by_cases c : k_isPred x pr = 0
  · rw [if_pos c] at e; cases e
  · rw [if_neg c] at e; exact h _ a e
theorem dI_rows (h : dX cR po tr fc pr bc lf FA DA BA n k FS DS BS TS NS) (h1 : r_ok n1) (h2 : r_ok k1) : dI cR po tr fc pr bc lf FA DA BA n1 k1 := by
  obtain ⟨a1, a2, a3, a4, a5, a6, a7, a8⟩ := h
  exact ⟨FS, DS, BS, TS, NS, a1, a2, a3, a4, a5, ⟨h1, h2⟩, a7, a8⟩
theorem new_fIn (hk : k_ok1 n1) : fIn cR (po ++ [(o, .inr (1, [.ref q, .int (fm_whole (newC f1 n1) n1.toNatClampNeg), .int (fm (newC f1 n1) n1.toNatClampNeg).2])), (q, .inl (cR, n1.toNatClampNeg, .inl (newC f1 n1)))]) o (n1.toNatClampNeg, newC f1 n1) := by
  have k1 := i_le hk.1; have k2 := i_le hk.2
  rw [i1] at k1; rw [show (100 : Int32).toInt = 100 from by decide] at k2
  refine ⟨⟨by show 1 ≤ n1.toNatClampNeg; rw [i_clamp]; omega, by show n1.toNatClampNeg ≤ 512; rw [i_clamp]; omega⟩, po.length, po.length + 1, q, ?_, ?_⟩
  · rw [List.getElem?_append_right (Nat.le_refl _), Nat.sub_self]; rfl
  · rw [List.getElem?_append_right (Nat.le_succ _), show (List.length po).succ - List.length po = 1 by omega]; rfl
theorem nn_1 (h0 : ¬ fc < 0) (h1 : fc < 1000) : ¬ fc + 1 < 0 := by
  have q1 := i_nlt h0; have q2 := i_lt h1
  rw [i0] at q1; rw [i1000] at q2
  intro z
  have q3 := i_lt z
  rw [i0, i_add rfl i1 (by omega) (by omega)] at q3
  omega
theorem dX_keep (h : dX cR po tr fc pr bc lf FA DA BA n k FS DS BS TS NS) (h1 : fc < 1000) (hk : k_ok1 n1) (hn1 : r_ok n1) (hk1 : r_ok k1) :
    dX cR (po ++ [(o, .inr (1, [.ref q, .int (fm_whole (newC f1 n1) n1.toNatClampNeg), .int (fm (newC f1 n1) n1.toNatClampNeg).2])), (q, .inl (cR, n1.toNatClampNeg, .inl (newC f1 n1)))]) tr (fc + 1) pr bc lf (va_up FA (fc.toNatClampNeg) (some o)) DA BA n1 k1 (fsUp FS fc.toNatClampNeg (n1.toNatClampNeg, newC f1 n1)) DS BS TS NS := by
  obtain ⟨a1, a2, ⟨b1, b2, b3⟩, a4, ⟨F, a5⟩, a6, ⟨c1, c2, c3⟩, a8⟩ := h
  exact ⟨fAll_keep a1 c1 h1 hk, fun i a e => fIn_grow (a2 i a e), ⟨bAll_grow b1, tAll_grow b2, nAll_grow b3⟩, a4, ⟨F, fIn_grow a5⟩, ⟨hn1, hk1⟩, ⟨nn_1 c1 h1, c2, c3⟩, a8⟩
theorem dI_keep (h : dX cR po tr fc pr bc lf FA DA BA n k FS DS BS TS NS) (h1 : fc < 1000) (hl : r_tooLarge n1 z1 = 0) (hn1 : r_ok n1) (hk1 : r_ok k1) :
    dI cR (po ++ [(o, .inr (1, [.ref q, .int (fm_whole (newC f1 n1) n1.toNatClampNeg), .int (fm (newC f1 n1) n1.toNatClampNeg).2])), (q, .inl (cR, n1.toNatClampNeg, .inl (newC f1 n1)))]) tr (fc + 1) pr bc lf (va_up FA (fc.toNatClampNeg) (some o)) DA BA n1 k1 := dX_i (dX_keep h h1 (large_no hn1 hl) hn1 hk1)
theorem dI_pred (h : dX cR po tr fc pr bc lf FA DA BA n k FS DS BS TS NS) (h1 : pr < 30) : dI cR po tr fc (pr + 1) bc lf FA DA BA n k := by
  obtain ⟨a1, a2, a3, a4, a5, a6, ⟨c1, c2, c3⟩, a8⟩ := h
  exact ⟨FS, DS, BS, TS, NS, a1, a2, a3, a4, a5, a6, ⟨c1, c2, nn_1 c3 (i_ltm (by have q := i_lt h1; rw [show (30 : Int32).toInt = 30 from by decide] at q; rw [i1000]; omega))⟩, a8⟩
theorem dI_def {x1 x2 : Int32} (h : dX cR po tr fc pr bc lf FA DA BA n k FS DS BS TS NS) (e : q_at p_form x2 fc FA FS = some a) : dI cR po tr fc pr bc lf FA (va_up DA (x1.toNatClampNeg) (some a)) BA n k := by
  obtain ⟨a1, a2, a3⟩ := h
  refine ⟨FS, fsUp DS x1.toNatClampNeg (FS x2.toNatClampNeg), BS, TS, NS, a1, fun i a' e' => ?_, a3⟩
  unfold va_up at e'
  unfold fsUp
  by_cases c : i = x1.toNatClampNeg
  · rw [if_pos c] at e' ⊢
    cases e'
    exact a1 _ _ (q_at_form e).1
  · rw [if_neg c] at e' ⊢
    exact a2 i a' e'
theorem bc40 (h0 : ¬ bc < 0) (h1 : bc < 40) : bc.toNatClampNeg < 40 ∧ ¬ bc + 1 < 0 := by
  have q1 := i_nlt h0; have q2 := i_lt h1
  rw [i0] at q1; rw [i40] at q2
  refine ⟨by rw [i_clamp]; omega, nn_1 h0 (i_ltm (by rw [i1000]; omega))⟩
theorem dX_begin {ki : Int32} {t : Nat} {F : FR} (h : dX cR po tr fc pr bc lf FA DA BA n k FS DS BS TS NS) (hb : bc < 40) (e : BA bc.toNatClampNeg = some b) (hi : po[i]? = some (b, .inr (0, vs))) (hF : fIn cR po t F) :
    dX cR (po.set i (b, .inr (0, [.int ki, .ref t, .int 0, .int 0, .null]))) tr fc pr (bc + 1) lf FA DA BA n k FS DS (bsUp BS bc.toNatClampNeg (ki, some t, 0, 0, none)) (fsUp TS bc.toNatClampNeg F) (nsUp NS bc.toNatClampNeg []) := by
  obtain ⟨a1, a2, ⟨b1, b2, b3⟩, a4, ⟨G, a5⟩, a6, ⟨c1, c2, c3⟩, a8⟩ := h
  exact ⟨fAll_set hi a1, fun j a e => fIn_set (by decide) hi (a2 j a e), ⟨bAll_set a4 b1 (bc40 c2 hb).1 e hi (ki, some t, 0, 0, none), tAll_more (tAll_set hi b2) c2 hb rfl (fIn_set (by decide) hi hF), nAll_more (nAll_set hi b3) c2 hb rfl⟩, a4, ⟨G, fIn_set (by decide) hi a5⟩, a6, ⟨c1, (bc40 c2 hb).2, c3⟩, a8⟩
theorem dI_top (h : dX cR po tr fc pr bc lf FA DA BA n k FS DS BS TS NS) (e : q_openB bc BA = some b) (hi : po[i]? = some (b, .inr (0, vs))) (B : BC) {t : Nat} {F : FR} {L : List NR} (et : B.2.1 = some t) (hF : fIn cR (po.set i (bCell b B) ++ Y) t F) (hL : nCh cR (po.set i (bCell b B) ++ Y) L B.2.2.2.2) (hn1 : r_ok n1) (hk1 : r_ok k1) (hlf : lf1 = 0 ∨ lf1 = 1) :
    dI cR (po.set i (bCell b B) ++ Y) tr fc pr bc lf1 FA DA BA n1 k1 := by
  obtain ⟨a1, a2, ⟨b1, b2, b3⟩, a4, ⟨G, a5⟩, a6, a7, a8⟩ := h
  obtain ⟨h0, h1, h2⟩ := open_bnd e
  obtain ⟨k1, k2, _⟩ := open_ix h0 h1
  exact ⟨FS, DS, bsUp BS (bc - 1).toNatClampNeg B, fsUp TS (bc - 1).toNatClampNeg F, nsUp NS (bc - 1).toNatClampNeg L, fAll_grow (fAll_set hi a1), fun j a e => fIn_grow (fIn_set (by decide) hi (a2 j a e)), ⟨bAll_grow (bAll_set a4 b1 k2 h2 hi B), tAll_up (tAll_grow (tAll_set hi b2)) et hF, nAll_up (nAll_grow (nAll_set hi b3)) hL⟩, a4, ⟨G, fIn_grow (fIn_set (by decide) hi a5)⟩, ⟨hn1, hk1⟩, a7, hlf⟩
/-- the open block keeps its thesis and its notes -/
theorem dI_same (h : dX cR po tr fc pr bc lf FA DA BA n k FS DS BS TS NS) (e : q_openB bc BA = some b) (hi : po[i]? = some (b, .inr (0, vs))) (B : BC) (e1 : B.2.1 = (bTop bc BS).2.1) (e2 : B.2.2.2.2 = (bTop bc BS).2.2.2.2) : dI cR (po.set i (bCell b B)) tr fc pr bc lf FA DA BA n k := by
  obtain ⟨h0, h1, h2⟩ := open_bnd e
  obtain ⟨g1, g2, _⟩ := open_ix h0 h1
  obtain ⟨t, ht, hF⟩ := h.2.2.1.2.1 _ g1 g2
  have q := dI_top (Y := []) h e hi B (e1.trans ht) (fIn_grow (fIn_set (by decide) hi hF)) (L := NS (bc - 1).toNatClampNeg) (by rw [e2]; exact nCh_grow (nCh_set hi (h.2.2.1.2.2 _ g1 g2))) h.2.2.2.2.2.1.1 h.2.2.2.2.2.1.2 h.2.2.2.2.2.2.2
  rw [List.append_nil] at q
  exact q
theorem nF_at {P : FR → Int32} {x : Int32} (h : fAll cR po fc FA FS) : ∃ R : Option FR, nF cR po (q_at P x fc FA FS) R := by
  cases e : q_at P x fc FA FS with
  | none => exact ⟨none, trivial⟩
  | some a => exact ⟨some (FS x.toNatClampNeg), h _ _ (q_at_form e).1⟩
theorem dI_step {ki cn nc mi v0 b1 nc1 mi1 z y y1 : Int32} {f g g1 : Nat → Int32} {fo la1 : Option Nat} {sd0 : RS} (h : dX cR po tr fc pr bc lf FA DA BA n k FS DS BS TS NS) (e : q_openB bc BA = some b) (et : (bTop bc BS).2.1 = some o1) (hi : po[i]? = some (b, .inr (0, vs))) (hfo : ∃ R : Option FR, nF cR po fo R)
    (hs : stp cR ki cn fo sd0 (TS (bc - 1).toNatClampNeg) pr DA DS (bTop bc BS).1 (bTop bc BS).2.2.2.2 o1 nc mi (f, n, z) (g, k, y) v0 b1 th1 la1 nc1 mi1 (f1, n1, z1) (g1, k1, y1) Y) :
    dI cR (po.set i (b, .inr (0, [.int (bTop bc BS).1, .ref th1, .int (bTop bc BS).2.2.1, .int (bTop bc BS).2.2.2.1, va_rf la1])) ++ Y) tr fc pr bc v0 FA DA BA n1 k1 := by
  obtain ⟨h0, h1, h2⟩ := open_bnd e
  obtain ⟨g1', g2, _⟩ := open_ix h0 h1
  obtain ⟨t, ht, hF⟩ := h.2.2.1.2.1 _ g1' g2
  have hC := h.2.2.1.2.2 _ g1' g2
  have hto : t = o1 := Option.some.inj (ht.symm.trans et)
  subst hto
  rcases hs with ⟨s1, s2, s3, s4, s5, s6, s7, nn, s8, s9⟩ | ⟨s1, s2, s3, s4, s5, s6, ⟨s7, s8⟩, s9⟩
  · injection s6 with s6 s61
    injection s61 with s61 s62
    injection s7 with s7 s71
    injection s71 with s71 s72
    subst s5 s8 s9 s61 s71 s2
    obtain ⟨R, hR⟩ := hfo
    refine dI_top h e hi ((bTop bc BS).1, some th1, (bTop bc BS).2.2.1, (bTop bc BS).2.2.2.1, some nn) rfl (fIn_grow (fIn_set (by decide) hi hF)) (L := (ki, cn, R) :: NS (bc - 1).toNatClampNeg) ⟨nn, (po.set i (bCell b ((bTop bc BS).1, some th1, (bTop bc BS).2.2.1, (bTop bc BS).2.2.2.1, some nn))).length, fo, (bTop bc BS).2.2.2.2, rfl, ?_, nF_grow (nF_set hi hR), nCh_grow (nCh_set hi hC)⟩ h.2.2.2.2.2.1.1 h.2.2.2.2.2.1.2 (Or.inr rfl)
    rw [List.getElem?_append_right (Nat.le_refl _), Nat.sub_self]; rfl
  · subst s3
    rcases s9 with ⟨v1, v2, v3, _⟩ | ⟨v1, v2, q9, v3⟩
    · subst v2 v3 v1
      exact dI_top h e hi ((bTop bc BS).1, some th1, (bTop bc BS).2.2.1, (bTop bc BS).2.2.2.1, (bTop bc BS).2.2.2.2) rfl (fIn_grow (fIn_set (by decide) hi hF)) (L := NS (bc - 1).toNatClampNeg) (nCh_grow (nCh_set hi hC)) s7 s8 (Or.inl rfl)
    · subst v3 v1
      exact dI_top h e hi ((bTop bc BS).1, some th1, (bTop bc BS).2.2.1, (bTop bc BS).2.2.2.1, (bTop bc BS).2.2.2.2) rfl (new_fIn (large_no s7 v2.2)) (L := NS (bc - 1).toNatClampNeg) (nCh_grow (nCh_set hi hC)) s7 s8 (Or.inr rfl)
theorem dX_less (h : dX cR po tr fc pr bc lf FA DA BA n k FS DS BS TS NS) (h0 : ¬ bc ≤ 0) : dX cR po tr fc pr (bc - 1) lf FA DA BA n k FS DS BS TS NS := by
  obtain ⟨a1, a2, ⟨b1, b2, b3⟩, a4, a5, a6, ⟨c1, c2, c3⟩, a8⟩ := h
  refine ⟨a1, a2, ⟨b1, tAll_less h0 b2, nAll_less h0 b3⟩, a4, a5, a6, ⟨c1, fun z => ?_, c3⟩, a8⟩
  have q1 := i_nle h0
  rw [i0] at q1
  have e : (bc - 1).toInt = bc.toInt - 1 := i_sub rfl i1 (by omega) (by have := bc.toInt_lt; omega)
  have q := i_lt z
  rw [e, i0] at q
  omega
theorem open_pos (h : (q_openB bc BA).isSome = true) : ¬ bc ≤ 0 ∧ ∃ b, q_openB bc BA = some b := by
  obtain ⟨b, e⟩ := Option.isSome_iff_exists.mp h
  exact ⟨(open_bnd e).1, b, e⟩
theorem dI_supp {b2 i2 nn : Nat} {vs2 : List Value} {F : FR} (h : dX cR po tr fc pr bc lf FA DA BA n k FS DS BS TS NS) (ha : fIn cR po a F) (e : q_openB bc BA = some b2) (hb : bc < 40) (e1 : BA bc.toNatClampNeg = some b) (hi : po[i]? = some (b, .inr (0, vs))) (et : (bTop bc BS).2.1 = some o1) (hi2 : po[i2]? = some (b2, .inr (0, vs2))) :
    dI cR ((po.set i (b, .inr (0, [.int 2, .ref o1, .int 0, .int 0, .null]))).set i2 (b2, .inr (0, [.int (bTop bc BS).1, .ref o1, .int (bTop bc BS).2.2.1, .int (bTop bc BS).2.2.2.1, va_rf (some nn)])) ++ [(nn, .inr (2, [.int 5, .int (-1), .ref a, va_rf (bTop bc BS).2.2.2.2]))]) tr fc pr (bc + 1) lf FA DA BA n k := by
  obtain ⟨h0, h1, h2⟩ := open_bnd e
  obtain ⟨g1, g2, _⟩ := open_ix h0 h1
  obtain ⟨t, ht, hF⟩ := h.2.2.1.2.1 _ g1 g2
  have hC := h.2.2.1.2.2 _ g1 g2
  have hto : t = o1 := Option.some.inj (ht.symm.trans et)
  subst hto
  have hne := sup_ne h.2.2.2.1 e hb e1 hi hi2
  have hnk : ¬ (bc - 1).toNatClampNeg = bc.toNatClampNeg := fun z => by rw [z] at g1; exact absurd g1 (Nat.lt_irrefl _)
  obtain ⟨a1, a2, ⟨b1, b2', b3⟩, a4, ⟨G, a5⟩, a6, a7, a8⟩ := dX_begin (ki := 2) h hb e1 hi hF
  have hi2' : (po.set i (b, .inr (0, [.int 2, .ref t, .int 0, .int 0, .null])))[i2]? = some (b2, .inr (0, vs2)) := by rw [List.getElem?_set_ne hne]; exact hi2
  have eB : bsUp BS bc.toNatClampNeg (2, some t, 0, 0, none) (bc - 1).toNatClampNeg = bTop bc BS := by unfold bsUp; rw [if_neg hnk]
  refine ⟨FS, DS, bsUp (bsUp BS bc.toNatClampNeg (2, some t, 0, 0, none)) (bc - 1).toNatClampNeg ((bTop bc BS).1, some t, (bTop bc BS).2.2.1, (bTop bc BS).2.2.2.1, some nn), fsUp TS bc.toNatClampNeg (TS (bc - 1).toNatClampNeg), nsUp (nsUp NS bc.toNatClampNeg []) (bc - 1).toNatClampNeg ((5, -1, some F) :: NS (bc - 1).toNatClampNeg), fAll_grow (fAll_set hi2' a1), fun j a e => fIn_grow (fIn_set (by decide) hi2' (a2 j a e)), ⟨bAll_grow (bAll_set a4 b1 g2 h2 hi2' ((bTop bc BS).1, some t, (bTop bc BS).2.2.1, (bTop bc BS).2.2.2.1, some nn)), tAll_same (tAll_grow (tAll_set hi2' b2')) (by rw [eB]; exact ht.symm), nAll_up (nAll_grow (nAll_set hi2' b3)) ⟨nn, ((po.set i (b, .inr (0, [.int 2, .ref t, .int 0, .int 0, .null]))).set i2 (b2, .inr (0, [.int (bTop bc BS).1, .ref t, .int (bTop bc BS).2.2.1, .int (bTop bc BS).2.2.2.1, va_rf (some nn)]))).length, some a, (bTop bc BS).2.2.2.2, rfl, ?_, fIn_grow (fIn_set (by decide) hi2' (fIn_set (by decide) hi ha)), nCh_grow (nCh_set hi2' (nCh_set hi hC))⟩⟩, a4, ⟨G, fIn_grow (fIn_set (by decide) hi2' a5)⟩, a6, a7, a8⟩
  rw [List.getElem?_append_right (Nat.le_refl _), Nat.sub_self]; rfl
end DI

