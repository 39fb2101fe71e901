theorem dI_end {cR : ClassId} {po po1 : va_W} {tr : Nat} {fc fc1 pr bc lf v0 : Int32} {FA FA1 DA BA : Nat → Option Nat} {n k z n1 z1 : Int32} {f f1 : Nat → Int32} {FS DS : Nat → FR} {BS : Nat → BC} {TS : Nat → FR} {NS : Nat → List NR} (hX : dX cR po tr fc pr bc lf FA DA BA n k FS DS BS TS NS) (h : (q_openB bc BA).isSome = true ∧ (((bTop bc BS).1 = 1 ∧ v0 = -2 - fc ∧ fc1 = fc + 1 ∧ t_all (NS (bc - 1).toNatClampNeg) (upd f ((0 : Int32).toNatClampNeg) 3) 1 0 = (f1, n1, z1) ∧ r_ok n1 ∧ fc < 1000 ∧ r_tooLarge n1 z1 = 0 ∧ ∃ o q : Nat, FA1 = va_up FA (fc.toNatClampNeg) (some o) ∧ po1 = po ++ [(o, .inr (1, [.ref q, .int (fm_whole (va_cpy f1 (fun _ => 0) ((0 : Int32).toNatClampNeg) ((0 : Int32).toNatClampNeg) (n1.toNatClampNeg)) n1.toNatClampNeg), .int ((fm (va_cpy f1 (fun _ => 0) ((0 : Int32).toNatClampNeg) ((0 : Int32).toNatClampNeg) (n1.toNatClampNeg)) n1.toNatClampNeg).2)])), (q, .inl (cR, n1.toNatClampNeg, .inl (va_cpy f1 (fun _ => 0) ((0 : Int32).toNatClampNeg) ((0 : Int32).toNatClampNeg) (n1.toNatClampNeg))))]) ∨ (¬ (bTop bc BS).1 = 1 ∧ v0 = b_shown ((bTop bc BS).2.2.1) ((bTop bc BS).2.2.2.1) ((bTop bc BS).2.2.2.2) (TS (bc - 1).toNatClampNeg) ∧ fc1 = fc ∧ FA1 = FA ∧ (f1, n1, z1) = (f, n, z) ∧ ((¬ (bTop bc BS).1 = 2 ∧ po1 = po) ∨ ((bTop bc BS).1 = 2 ∧ (((q_openB (bc - 1) BA = none ∨ ¬ (b_shown ((bTop bc BS).2.2.1) ((bTop bc BS).2.2.2.1) ((bTop bc BS).2.2.2.2) (TS (bc - 1).toNatClampNeg)) = 0) ∧ po1 = po) ∨ ((b_shown ((bTop bc BS).2.2.1) ((bTop bc BS).2.2.2.1) ((bTop bc BS).2.2.2.2) (TS (bc - 1).toNatClampNeg)) = 0 ∧ ∃ b i : Nat, q_openB (bc - 1) BA = some b ∧ po[i]? = some (b, .inr (0, [.int ((bTop (bc - 1) BS).1), va_rf ((bTop (bc - 1) BS).2.1), .int ((bTop (bc - 1) BS).2.2.1), .int ((bTop (bc - 1) BS).2.2.2.1), va_rf ((bTop (bc - 1) BS).2.2.2.2)])) ∧ po1 = po.set i (b, .inr (0, [.int ((bTop (bc - 1) BS).1), va_rf ((bTop (bc - 1) BS).2.1), .int ((bTop (bc - 1) BS).2.2.1), .int 1, va_rf ((bTop (bc - 1) BS).2.2.2.2)]))))))))) : dI cR po1 tr fc1 pr (bc - 1) lf FA1 DA BA n1 k := by
  obtain ⟨ho, h⟩ := h
  obtain ⟨hp, b, e⟩ := open_pos ho
  rcases h with ⟨_, _, e1, _, e2, e3, e4, o9, q8, e5, e6⟩ | ⟨_, _, e1, e2, e3, h⟩
  · subst e1 e5 e6
    exact dX_i (dX_less (dX_keep hX e3 (large_no e2 e4) e2 hX.2.2.2.2.2.1.2) hp)
  · injection e3 with e3 e4
    injection e4 with e4 e5
    subst e1 e2 e4
    have hL := dX_less hX hp
    rcases h with ⟨_, e6⟩ | ⟨_, h⟩
    · subst e6; exact dX_i hL
    · rcases h with ⟨_, e6⟩ | ⟨_, b2, i2, g1, g2, g3⟩
      · subst e6; exact dX_i hL
      · subst g3; exact dI_same hL g1 g2 ((bTop (bc - 1) BS).1, (bTop (bc - 1) BS).2.1, (bTop (bc - 1) BS).2.2.1, 1, (bTop (bc - 1) BS).2.2.2.2) rfl rfl
theorem nF_n {cR : ClassId} {po : va_W} : ∃ R : Option FR, nF cR po none R := ⟨none, trivial⟩
theorem nc_SA {s : State} (hE : ev s) : va_Nc nISE nIAE s := by
  obtain ⟨s0, b0, hW, _, hg⟩ := hE
  exact va_Nc.moved hW.alike (va_Nc.of (flat_of_before _ hg (.not (.castable nISE nIAE)) (by decide +kernel)))

