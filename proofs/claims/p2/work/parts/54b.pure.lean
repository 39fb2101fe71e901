/-! A formula kept alone: what was made since a mark is forgotten but for it. -/
def tr9 (s : St) (mk tp : Nat) : St := (s.1, s.2.1, s.2.2.1, sUp (sUp s.2.2.2 0 mk) 1 tp)
def alP (PM : Nat → Nat) (s : St) (f mk tp : Nat) (s' : St) (x : Nat) : Prop :=
  rI PM s' ∧ sExt (tr9 s mk tp) s' ∧ (s_n s' ≤ mk + s_sz s f ∧ s_dt s' ≤ tp + s_sz s f ∧ s_h s' = s_h s) ∧ (∀ i, i < s_h s → s'.2.2.1 10 i = s.2.2.1 10 i) ∧ isF s' x ∧ s_sz s' x = s_sz s f ∧ s_kd s' x = s_kd s f
section ALONE
variable {PM : Nat → Nat} {s s1 s2 s3 s' : St} {f mk tp x : Nat}
theorem gc_eq (h : s'.2.1 = s.2.1) : gc s' = gc s ∧ gs s' = gs s := by unfold gc gs; rw [h]; exact ⟨rfl, rfl⟩
/-- what is left behind a forgetting -/
theorem fg_ext (h : fgP PM s mk tp s') : sExt (tr9 s mk tp) s' := by
  obtain ⟨a1, a2, a3, a4, a5, a6, a7⟩ := h
  refine ⟨by rw [a4]; exact Nat.le_refl _, by rw [a5]; exact Nat.le_refl _, fun k hk x _ _ => by rw [a3 k (by omega)]; rfl, fun d _ => by rw [a3 9 (by decide)]; rfl, ?_, ?_⟩
  · rw [(gc_eq a2.2).2]; exact Nat.le_refl _
  · rw [(gc_eq a2.2).1]; exact Nat.le_refl _
theorem al_a (hf : isF s f) (hm : f ≤ mk) (h : fgP PM s mk tp s') : alP PM s f mk tp s' f := by
  have hE := fg_ext h
  obtain ⟨a1, a2, a3, a4, a5, a6, a7⟩ := h
  have ek : s_kd s' f = s_kd s f := by unfold s_kd; rw [a3 0 (by decide)]
  have es : s_sz s' f = s_sz s f := by unfold s_sz; rw [a3 4 (by decide)]
  exact ⟨a1, hE, ⟨by omega, by omega, a6⟩, fun i _ => by rw [a3 10 (by decide)], ⟨⟨hf.1.1, by omega⟩, by rw [ek]; exact hf.2⟩, es, ek⟩
theorem al_b (hf : isF s f) (hw : wrP PM (psS s 0) f s1) (hg : fgP PM s1 mk tp s2) (hr : rdP PM (psS s2 0) s f s' x) : alP PM s f mk tp s' x := by
  have hE := fg_ext hg
  obtain ⟨w1, w2, w3, w4, w5⟩ := hw
  obtain ⟨a1, a2, a3, a4, a5, a6, a7⟩ := hg
  obtain ⟨b1, b2, ⟨b3, b4, b5, b6⟩, ⟨b7, b8⟩, b9, b10, b11⟩ := hr
  have b3' : s_n s' ≤ s_n s2 + s_sz s f := b3
  have b4' : s_dt s' + 1 ≤ s_dt s2 + s_sz s f := b4
  have b5' : s_h s' = s_h s2 := b5
  have w5' : s_h s1 = s_h s := w2.2.2.2.2
  have e10 : ∀ i, i < s_h s → s2.2.2.1 10 i = s.2.2.1 10 i := fun i _ => by rw [a3 10 (by decide), w2.1 10 (by decide)]; rfl
  have hE0 : sExt (tr9 s mk tp) (tr9 s1 mk tp) := by
    refine ⟨Nat.le_refl _, Nat.le_refl _, fun k hk x _ _ => ?_, fun d _ => ?_, ?_, ?_⟩
    · show s1.2.2.1 k x = s.2.2.1 k x; rw [w2.1 k (by omega)]; rfl
    · show s1.2.2.1 9 d = s.2.2.1 9 d; rw [w2.1 9 (by decide)]; rfl
    · show gs s ≤ gs s1; rw [(gc_eq (s := s) (s' := s1) w2.2.1).2]; exact Nat.le_refl _
    · show gc s ≤ gc s1; rw [(gc_eq (s := s) (s' := s1) w2.2.1).1]; exact Nat.le_refl _
  refine ⟨b1, sExt_trans (sExt_trans hE0 hE) (sExt_trans sExt_ps b2), ⟨by omega, by omega, by omega⟩, fun i hi => ?_, ⟨b9, by rw [b11]; exact hf.2⟩, b10.2, b11⟩
  rw [b7 i (by show i < s_h s2; omega)]
  exact e10 i hi
theorem al_pg (hw : wrP PM (psS s 0) f s1) (hg : fgP PM s1 mk tp s2) : ∀ t, pgT s t ((psS s2 0).2.2.1 11) (s_p (psS s2 0)) f := by
  intro t
  have e : (psS s2 0).2.2.1 11 = s1.2.2.1 11 := hg.2.2.1 11 (by decide)
  rw [e]
  have h := hw.2.2.2.2 t
  have key : ∀ {t a n : Nat}, pgT (psS s 0) t (s1.2.2.1 11) a n → pgT s t (s1.2.2.1 11) a n := fun {t a n} z => pgT_eqN (s := s) (s' := psS s 0) ⟨fun _ _ => rfl, rfl, rfl, rfl, rfl⟩ z
  exact key h
end ALONE

