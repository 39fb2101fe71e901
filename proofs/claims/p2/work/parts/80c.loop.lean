set_option maxHeartbeats 4000000 in
set_option maxRecDepth 100000 in
theorem law_loop {p : Program} {l : Launch} {e : Env} {s : State} {m : MethodId} {below : List Frame} {meth : Method} {c : Code} {b : Nat} {D : va_G} {d fa ma da ba wk sd tr wkc sdc mo ou : Nat} {cF cR cB cM cZ cJ : ClassId} {BA : Nat → Option Nat} {L : Nat} {xs : Nat → Int32} (hx : p.tables.exec = Jvm.exec) (hb : c.code = code) (hr : meth.sig.returnType = ret) (hlocks : meth.locks = false) (hX : va_X b L xs s s.heap) (hbl : b < s.heap.size) (hbA : ¬ (fun q : Nat => s.heap.size ≤ q) b) (hml : c.maxLocals = 7) (hown : s.vm.findClass RL = some m.cls) (hl0 : l.stackTraces = false) (hts : ∀ w ∈ lw_G, w.before #[Value.ref b] s = true) (hE : ev s) (hZ : zz (fun q : Nat => s.heap.size ≤ q) s s.heap) (hA : ∀ q : Nat, s.heap.size ≤ q → (fun q : Nat => s.heap.size ≤ q) q) (hK : va_K D vwCl [(cR, .int), (cF, .object RX2), (cB, .object RX0), (cM, .int), (cZ, .boolean), (cJ, .long)] s) (hL : L ≤ 2048) : ∀ (t j9 : Nat), j9 + t = L / 4 → lawK p l e s m below meth c b D d fa ma da ba wk sd tr wkc sdc mo ou cF cR cB cM cZ cJ BA j9 := by
  intro t
  induction t with
  | zero =>
    intro j9 hj9 fc cc pr bc nc lf mi FA DA MA f g n z k y po fl th PM s0 r0 H locs ls hD9 hpr9 hI hP hD hS hl
    obtain ⟨⟨hR, hh0, hn0, hd0⟩, hfm, ⟨hpr, hpr2, hpr3⟩, hdf, ⟨hb40, hft, hst, hwy⟩, ⟨hl9, hl10, hl11, hl12⟩, hblk, hwt, hnt, hway⟩ := id hI
    refine lv_iload hx hb dL_law_23 (lv_at hl 0 rfl) ?_
    refine lv_aload_n hx hb dL_law_25 rfl (lv_at hl 4 rfl) ?_
    refine va_slen hx hb hX hbl hbA hS dL_law_26 ?_
    refine ck_top (y := nI L) rfl ?_
    refine lv_iconst (v := 4) hx hb dL_law_27 (by decide) ?_
    refine lv_isub hx hb dL_law_28 ?_
    refine ck_top (y := nI L - 4) rfl ?_
    refine lv_icmp_gt (tgt := 900) hx hb dL_law_29 (by decide) (fun _ => ?_) (fun c9 => absurd (law_gt hL (by omega) (by omega)) c9)
    refine lv_iconst (v := 1) hx hb dL_law_900 (by decide) ?_
    refine va_forget (fun q hq => hS.2.2 q hq) ?_
    refine W.widen (k := 601024) (n := 7293034) (by have a9 : gc s0 ≤ 24704 ∧ gs s0 ≤ 3162112 := rI_room hR; show (200 + 64 * j9 + gc s0) ≤ 601024; omega) (by have a9 : gc s0 ≤ 24704 ∧ gs s0 ≤ 3162112 := rI_room hR; show (30000 + 6200 * j9 + gs s0) ≤ 7293034; omega) ?_
    exact lw_ret hx hb hr hlocks dL_law_901
  | succ t ih =>
    intro j9 hj9 fc cc pr bc nc lf mi FA DA MA f g n z k y po fl th PM s0 r0 H locs ls hD9 hpr9 hI hP hD hS hl
    obtain ⟨⟨hR, hh0, hn0, hd0⟩, hfm, ⟨hpr, hpr2, hpr3⟩, hdf, ⟨hb40, hft, hst, hwy⟩, ⟨hl9, hl10, hl11, hl12⟩, hblk, hwt, hnt, hway⟩ := id hI
    refine lv_iload hx hb dL_law_23 (lv_at hl 0 rfl) ?_
    refine lv_aload_n hx hb dL_law_25 rfl (lv_at hl 4 rfl) ?_
    refine va_slen hx hb hX hbl hbA hS dL_law_26 ?_
    refine ck_top (y := nI L) rfl ?_
    refine lv_iconst (v := 4) hx hb dL_law_27 (by decide) ?_
    refine lv_isub hx hb dL_law_28 ?_
    refine ck_top (y := nI L - 4) rfl ?_
    refine lv_icmp_gt (tgt := 900) hx hb dL_law_29 (by decide) (fun c9 => absurd c9 (law_ngt hL (by omega))) (fun _ => ?_)
    refine lv_aload_n hx hb dL_law_32 rfl (lv_at hl 4 rfl) ?_
    refine lv_iload hx hb dL_law_33 (lv_at hl 0 rfl) ?_
    refine va_sld hx hb hX hbl hbA hS (vp_in_nI (show 4 * j9 < L by omega) (by omega)) dL_law_35 ?_
    refine ck_top (y := xs (4 * j9)) (by rw [nI_clamp (show 4 * j9 < 2 ^ 31 by omega)]) ?_
    refine lv_bipush (v := 31) hx hb dL_law_36 (by decide) ?_
    refine lv_iand hx hb dL_law_38 ?_
    refine lv_topi (fun z_1 ez_1 => ?_)
    by_cases sw_39_0 : z_1 = 0
    · subst sw_39_0
      refine lv_tableIn (off := 109) (tgt := 148) hx hb dL_law_39 (by decide) (by decide) rfl (by decide) ?_
      exact law_predicate hx hb hr hlocks hX hbl hbA hml hown hl0 hts hE hZ hA hK hL (by omega) (ih (j9 + 1) (by omega)) hD9 hpr9 hI hP hD hS (lv_sub hl [0, 1, 2, 3, 4] rfl)
    by_cases sw_39_1 : z_1 = 1
    · subst sw_39_1
      refine lv_tableIn (off := 165) (tgt := 204) hx hb dL_law_39 (by decide) (by decide) rfl (by decide) ?_
      exact law_define hx hb hr hlocks hX hbl hbA hml hown hl0 hts hE hZ hA hK hL (by omega) (ih (j9 + 1) (by omega)) hD9 hpr9 hI hP hD hS (lv_sub hl [0, 1, 2, 3, 4] rfl)
    by_cases sw_39_2 : z_1 = 2
    · subst sw_39_2
      refine lv_tableIn (off := 205) (tgt := 244) hx hb dL_law_39 (by decide) (by decide) rfl (by decide) ?_
      exact law_constant hx hb hr hlocks hX hbl hbA hml hown hl0 hts hE hZ hA hK hL (by omega) (ih (j9 + 1) (by omega)) hD9 hpr9 hI hP hD hS (lv_sub hl [0, 1, 2, 3, 4] rfl)
    by_cases sw_39_3 : z_1 = 3
    · subst sw_39_3
      refine lv_tableIn (off := 221) (tgt := 260) hx hb dL_law_39 (by decide) (by decide) rfl (by decide) ?_
      exact law_locus hx hb hr hlocks hX hbl hbA hml hown hl0 hts hE hZ hA hK hL (by omega) (ih (j9 + 1) (by omega)) hD9 hpr9 hI hP hD hS (lv_sub hl [0, 1, 2, 3, 4] rfl)
    by_cases sw_39_4 : z_1 = 4
    · subst sw_39_4
      refine lv_tableIn (off := 249) (tgt := 288) hx hb dL_law_39 (by decide) (by decide) rfl (by decide) ?_
      exact law_atom hx hb hr hlocks hX hbl hbA hml hown hl0 hts hE hZ hA hK hL (by omega) (ih (j9 + 1) (by omega)) hD9 hpr9 hI hP hD hS (lv_sub hl [0, 1, 2, 3, 4] rfl)
    by_cases sw_39_5 : z_1 = 5
    · subst sw_39_5
      refine lv_tableIn (off := 301) (tgt := 340) hx hb dL_law_39 (by decide) (by decide) rfl (by decide) ?_
      exact law_join hx hb hr hlocks hX hbl hbA hml hown hl0 hts hE hZ hA hK hL (by omega) (ih (j9 + 1) (by omega)) hD9 hpr9 hI hP hD hS (lv_sub hl [0, 1, 2, 3, 4] rfl)
    by_cases sw_39_6 : z_1 = 6
    · subst sw_39_6
      refine lv_tableIn (off := 353) (tgt := 392) hx hb dL_law_39 (by decide) (by decide) rfl (by decide) ?_
      exact law_bind hx hb hr hlocks hX hbl hbA hml hown hl0 hts hE hZ hA hK hL (by omega) (ih (j9 + 1) (by omega)) hD9 hpr9 hI hP hD hS (lv_sub hl [0, 1, 2, 3, 4] rfl)
    by_cases sw_39_7 : z_1 = 7
    · subst sw_39_7
      refine lv_tableIn (off := 421) (tgt := 460) hx hb dL_law_39 (by decide) (by decide) rfl (by decide) ?_
      exact law_proof hx hb hr hlocks hX hbl hbA hml hown hl0 hts hE hZ hA hK hL (by omega) (ih (j9 + 1) (by omega)) hD9 hpr9 hI hP hD hS (lv_sub hl [0, 1, 2, 3, 4] rfl)
    by_cases sw_39_8 : z_1 = 8
    · subst sw_39_8
      refine lv_tableIn (off := 449) (tgt := 488) hx hb dL_law_39 (by decide) (by decide) rfl (by decide) ?_
      exact law_now hx hb hr hlocks hX hbl hbA hml hown hl0 hts hE hZ hA hK hL (by omega) (ih (j9 + 1) (by omega)) hD9 hpr9 hI hP hD hS (lv_sub hl [0, 1, 2, 3, 4] rfl)
    by_cases sw_39_9 : z_1 = 9
    · subst sw_39_9
      refine lv_tableIn (off := 465) (tgt := 504) hx hb dL_law_39 (by decide) (by decide) rfl (by decide) ?_
      exact law_let hx hb hr hlocks hX hbl hbA hml hown hl0 hts hE hZ hA hK hL (by omega) (ih (j9 + 1) (by omega)) hD9 hpr9 hI hP hD hS (lv_sub hl [0, 1, 2, 3, 4] rfl)
    by_cases sw_39_10 : z_1 = 10
    · subst sw_39_10
      refine lv_tableIn (off := 481) (tgt := 520) hx hb dL_law_39 (by decide) (by decide) rfl (by decide) ?_
      exact law_fit hx hb hr hlocks hX hbl hbA hml hown hl0 hts hE hZ hA hK hL (by omega) (ih (j9 + 1) (by omega)) hD9 hpr9 hI hP hD hS (lv_sub hl [0, 1, 2, 3, 4] rfl)
    by_cases sw_39_11 : z_1 = 11
    · subst sw_39_11
      refine lv_tableIn (off := 494) (tgt := 533) hx hb dL_law_39 (by decide) (by decide) rfl (by decide) ?_
      exact law_assume hx hb hr hlocks hX hbl hbA hml hown hl0 hts hE hZ hA hK hL (by omega) (ih (j9 + 1) (by omega)) hD9 hpr9 hI hP hD hS (lv_sub hl [0, 1, 2, 3, 4] rfl)
    by_cases sw_39_12 : z_1 = 12
    · subst sw_39_12
      refine lv_tableIn (off := 522) (tgt := 561) hx hb dL_law_39 (by decide) (by decide) rfl (by decide) ?_
      exact law_thus hx hb hr hlocks hX hbl hbA hml hown hl0 hts hE hZ hA hK hL (by omega) (ih (j9 + 1) (by omega)) hD9 hpr9 hI hP hD hS (lv_sub hl [0, 1, 2, 3, 4] rfl)
    by_cases sw_39_13 : z_1 = 13
    · subst sw_39_13
      refine lv_tableIn (off := 550) (tgt := 589) hx hb dL_law_39 (by decide) (by decide) rfl (by decide) ?_
      exact law_take hx hb hr hlocks hX hbl hbA hml hown hl0 hts hE hZ hA hK hL (by omega) (ih (j9 + 1) (by omega)) hD9 hpr9 hI hP hD hS (lv_sub hl [0, 1, 2, 3, 4] rfl)
    by_cases sw_39_14 : z_1 = 14
    · subst sw_39_14
      refine lv_tableIn (off := 578) (tgt := 617) hx hb dL_law_39 (by decide) (by decide) rfl (by decide) ?_
      exact law_given hx hb hr hlocks hX hbl hbA hml hown hl0 hts hE hZ hA hK hL (by omega) (ih (j9 + 1) (by omega)) hD9 hpr9 hI hP hD hS (lv_sub hl [0, 1, 2, 3, 4] rfl)
    by_cases sw_39_15 : z_1 = 15
    · subst sw_39_15
      refine lv_tableIn (off := 618) (tgt := 657) hx hb dL_law_39 (by decide) (by decide) rfl (by decide) ?_
      exact law_cases hx hb hr hlocks hX hbl hbA hml hown hl0 hts hE hZ hA hK hL (by omega) (ih (j9 + 1) (by omega)) hD9 hpr9 hI hP hD hS (lv_sub hl [0, 1, 2, 3, 4] rfl)
    by_cases sw_39_16 : z_1 = 16
    · subst sw_39_16
      refine lv_tableIn (off := 631) (tgt := 670) hx hb dL_law_39 (by decide) (by decide) rfl (by decide) ?_
      exact law_suppose hx hb hr hlocks hX hbl hbA hml hown hl0 hts hE hZ hA hK hL (by omega) (ih (j9 + 1) (by omega)) hD9 hpr9 hI hP hD hS (lv_sub hl [0, 1, 2, 3, 4] rfl)
    by_cases sw_39_17 : z_1 = 17
    · subst sw_39_17
      refine lv_tableIn (off := 659) (tgt := 698) hx hb dL_law_39 (by decide) (by decide) rfl (by decide) ?_
      exact law_endc hx hb hr hlocks hX hbl hbA hml hown hl0 hts hE hZ hA hK hL (by omega) (ih (j9 + 1) (by omega)) hD9 hpr9 hI hP hD hS (lv_sub hl [0, 1, 2, 3, 4] rfl)
    by_cases sw_39_18 : z_1 = 18
    · subst sw_39_18
      refine lv_tableIn (off := 675) (tgt := 714) hx hb dL_law_39 (by decide) (by decide) rfl (by decide) ?_
      exact law_thesis hx hb hr hlocks hX hbl hbA hml hown hl0 hts hE hZ hA hK hL (by omega) (ih (j9 + 1) (by omega)) hD9 hpr9 hI hP hD hS (lv_sub hl [0, 1, 2, 3, 4] rfl)
    by_cases sw_39_19 : z_1 = 19
    · subst sw_39_19
      refine lv_tableIn (off := 691) (tgt := 730) hx hb dL_law_39 (by decide) (by decide) rfl (by decide) ?_
      exact law_ways hx hb hr hlocks hX hbl hbA hml hown hl0 hts hE hZ hA hK hL (by omega) (ih (j9 + 1) (by omega)) hD9 hpr9 hI hP hD hS (lv_sub hl [0, 1, 2, 3, 4] rfl)
    by_cases sw_39_20 : z_1 = 20
    · subst sw_39_20
      refine lv_tableIn (off := 707) (tgt := 746) hx hb dL_law_39 (by decide) (by decide) rfl (by decide) ?_
      exact law_about hx hb hr hlocks hX hbl hbA hml hown hl0 hts hE hZ hA hK hL (by omega) (ih (j9 + 1) (by omega)) hD9 hpr9 hI hP hD hS (lv_sub hl [0, 1, 2, 3, 4] rfl)
    by_cases sw_39_21 : z_1 = 21
    · subst sw_39_21
      refine lv_tableIn (off := 747) (tgt := 786) hx hb dL_law_39 (by decide) (by decide) rfl (by decide) ?_
      exact law_part hx hb hr hlocks hX hbl hbA hml hown hl0 hts hE hZ hA hK hL (by omega) (ih (j9 + 1) (by omega)) hD9 hpr9 hI hP hD hS (lv_sub hl [0, 1, 2, 3, 4] rfl)
    by_cases sw_39_22 : z_1 = 22
    · subst sw_39_22
      refine lv_tableIn (off := 787) (tgt := 826) hx hb dL_law_39 (by decide) (by decide) rfl (by decide) ?_
      exact law_alike hx hb hr hlocks hX hbl hbA hml hown hl0 hts hE hZ hA hK hL (by omega) (ih (j9 + 1) (by omega)) hD9 hpr9 hI hP hD hS (lv_sub hl [0, 1, 2, 3, 4] rfl)
    by_cases sw_39_23 : z_1 = 23
    · subst sw_39_23
      refine lv_tableIn (off := 827) (tgt := 866) hx hb dL_law_39 (by decide) (by decide) rfl (by decide) ?_
      exact law_count hx hb hr hlocks hX hbl hbA hml hown hl0 hts hE hZ hA hK hL (by omega) (ih (j9 + 1) (by omega)) hD9 hpr9 hI hP hD hS (lv_sub hl [0, 1, 2, 3, 4] rfl)
    refine lv_tableOut (tgt := 894) hx hb dL_law_39 (by have g0 := lv_neT (a := 0) sw_39_0 (by decide); have g1 := lv_neT (a := 1) sw_39_1 (by decide); have g2 := lv_neT (a := 2) sw_39_2 (by decide); have g3 := lv_neT (a := 3) sw_39_3 (by decide); have g4 := lv_neT (a := 4) sw_39_4 (by decide); have g5 := lv_neT (a := 5) sw_39_5 (by decide); have g6 := lv_neT (a := 6) sw_39_6 (by decide); have g7 := lv_neT (a := 7) sw_39_7 (by decide); have g8 := lv_neT (a := 8) sw_39_8 (by decide); have g9 := lv_neT (a := 9) sw_39_9 (by decide); have g10 := lv_neT (a := 10) sw_39_10 (by decide); have g11 := lv_neT (a := 11) sw_39_11 (by decide); have g12 := lv_neT (a := 12) sw_39_12 (by decide); have g13 := lv_neT (a := 13) sw_39_13 (by decide); have g14 := lv_neT (a := 14) sw_39_14 (by decide); have g15 := lv_neT (a := 15) sw_39_15 (by decide); have g16 := lv_neT (a := 16) sw_39_16 (by decide); have g17 := lv_neT (a := 17) sw_39_17 (by decide); have g18 := lv_neT (a := 18) sw_39_18 (by decide); have g19 := lv_neT (a := 19) sw_39_19 (by decide); have g20 := lv_neT (a := 20) sw_39_20 (by decide); have g21 := lv_neT (a := 21) sw_39_21 (by decide); have g22 := lv_neT (a := 22) sw_39_22 (by decide); have g23 := lv_neT (a := 23) sw_39_23 (by decide); omega) (by decide) ?_
    obtain ⟨z_2, ez_2⟩ : ∃ z : Int32, z = (nI (4 * j9)) + 4 := ⟨_, rfl⟩
    refine lv_iinc (v := z_2) (lv' := [(4, .int z_2), (3, .ref ou), (2, .ref mo), (1, .ref d), (0, .ref b)]) hx hb dL_law_894 hl (k := 0) rfl (by rw [ez_2]; rfl) (by decide) rfl (fun ls hl => ?_)
    refine lv_goto (tgt := 23) hx hb dL_law_897 (by decide) ?_
    have ez : z_2 = nI (4 * (j9 + 1)) := by rw [ez_2]; exact nI_4 j9
    subst ez
    refine W.widen (k := (200 + 64 * (j9 + 1) + gc s0)) (n := (30000 + 6200 * (j9 + 1) + gs s0)) (by show (200 + 64 * j9 + gc s0) ≤ (200 + 64 * (j9 + 1) + gc s0); omega) (by show (30000 + 6200 * j9 + gs s0) ≤ (30000 + 6200 * (j9 + 1) + gs s0); omega) ?_
    exact ih (j9 + 1) (by omega) fc cc pr bc nc lf mi FA DA MA f g n z k y po fl th PM s0 r0 H _ ls hD9 hpr9 (mI_nx hI) hP hD hS (lv_sub hl [0, 1, 2, 3, 4] rfl)
