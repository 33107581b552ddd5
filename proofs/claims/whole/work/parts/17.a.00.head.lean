/-! ===== the reference's words ===== -/
theorem al_s {P : Nat → Prop} {j : Nat} (h : ∀ i, i < j → P i) (h2 : P j) : ∀ i, i < j + 1 → P i := fun i hi => by
  rcases Nat.lt_or_ge i j with q | q
  · exact h i q
  · obtain rfl : i = j := by omega
    exact h2
theorem isWord_1 {x : Int32} {v k : Nat} {E : Nat → Int32} (hv : v < 2 ^ 31) (hx : x = nI v) (h : wdk v k) (h2 : wdM k (wl v k) E) : isW x ∧ nI k = nI (wkk x) ∧ wdM (wkk x) (wla x) E := by
  obtain ⟨e1, e2⟩ := wkk_of hv hx h
  refine ⟨⟨v, k, hv, hx, h⟩, by rw [e1], ?_⟩
  unfold wla
  rw [e1, e2]
  exact h2
theorem nI_m1 {a : Nat} (h : a < 2 ^ 31) : ¬ nI a = -1 := fun q => by
  have := nI_pos h
  rw [q] at this
  exact this (by decide)
theorem nn_ge {x : Int32} (h : nn x) (h0 : ¬ x = 0) : ¬ x < nI 1 := by
  rw [nn_sn h] at h0 ⊢
  intro q
  have := (nI_ltI (sn_lt _) (by omega)).mp q
  rw [show sn x = 0 by omega] at h0
  exact h0 nI_0
theorem nn_le {x : Int32} (h : nn x) (h0 : ¬ x = 0) : ¬ x ≤ 0 := by
  rw [nn_sn h] at h0 ⊢
  rcases Nat.eq_zero_or_pos (sn x) with q | q
  · rw [q] at h0; exact absurd nI_0 h0
  · exact nI_nle q (sn_lt _)
theorem nn_1 {x : Int32} (h : nn x) (h0 : ¬ x < nI 1) : x - nI 1 = nI (sn x - 1) ∧ 1 ≤ sn x := by
  rw [nn_sn h] at h0
  have h1 : 1 ≤ sn x := by
    rcases Nat.eq_zero_or_pos (sn x) with q | q
    · rw [q] at h0; exact absurd (by decide) h0
    · exact q
  refine ⟨?_, h1⟩
  rw [← pk_sub h1, ← nn_sn h]
theorem nn_dec {lf : Nat → Int32} {g : Nat} (h : ∀ q, q < 29 → nn (lf q)) (hg : g < 29) (h0 : ¬ lf g < nI 1) : ∀ q, q < 29 → nn (upd lf g (lf g - nI 1) q) := fun q hq => by
  simp only [upd]
  split
  · rw [(nn_1 (h g hg) h0).1]
    exact nn_nI (by have := sn_lt (lf g); omega)
  · exact h q hq
