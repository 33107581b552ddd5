/-! ===== laying out, over and over ===== -/
theorem pos_of {x : Int32} (h : nn x) (h1 : 1 ≤ sn x) : 0 < x ∧ ¬ x < nI 1 := by
  rw [nn_sn h]
  have l := sn_lt x
  refine ⟨?_, ?_⟩
  · rw [← nI_0]; exact (nI_ltI (by omega) l).mpr (by omega)
  · intro q; have := (nI_ltI l (by omega)).mp q; omega
theorem upd_dec {lf : Nat → Int32} {g : Nat} (h : nn (lf g)) (h1 : 1 ≤ sn (lf g)) (q : Nat) : upd lf g (lf g - nI 1) q = if q = g then nI (sn (lf g) - 1) else lf q := by
  simp only [upd]
  by_cases e : q = g
  · rw [if_pos e, if_pos e, (nn_1 h (pos_of h h1).2).1]
  · rw [if_neg e, if_neg e]
theorem sn_dec {lf : Nat → Int32} {g : Nat} (h : nn (lf g)) (h1 : 1 ≤ sn (lf g)) (q : Nat) : sn (upd lf g (lf g - nI 1) q) = if q = g then sn (lf g) - 1 else sn (lf q) := by
  rw [upd_dec h h1]
  split
  · exact sn_nI (by have := sn_lt (lf g); omega)
  · rfl
theorem one_of {x : Int32} (h : nn x) (h1 : ¬ x < nI 1) : 1 ≤ sn x := (nn_1 h h1).2
theorem ly_mono {a : Nat → Nat} {k : Nat} (ha : ∀ j, j < k → a j < 26) : ∀ (n i x : Nat) (lf tk : Nat → Int32), (∀ q, q < 29 → nn (lf q)) → ∀ q, q < 29 → nn ((ly a k n i x lf tk).2.1 q) ∧ sn ((ly a k n i x lf tk).2.1 q) ≤ sn (lf q) := by
  intro n
  induction n with
  | zero => intro i x lf tk h q hq; exact ⟨h q hq, Nat.le_refl _⟩
  | succ n ih =>
    intro i x lf tk h q hq
    by_cases hi : i < k
    · by_cases h1 : lf (sf lf a k i) < nI 1
      · rw [ly, if_pos hi, if_pos h1]; exact ⟨h q hq, Nat.le_refl _⟩
      · rw [ly, if_pos hi, if_neg h1]
        have hs := (sf_in (lf := lf) ha hi).1
        obtain ⟨g1, g2⟩ := ih (if 26 ≤ sf lf a k i then i + 2 else i + 1) (x + 1) _ (upd tk (sf lf a k i) (tk (sf lf a k i) + nI 1)) (nn_dec h hs h1) q hq
        refine ⟨g1, Nat.le_trans g2 ?_⟩
        rw [sn_dec (h _ hs) (one_of (h _ hs) h1)]
        split
        · rename_i e; rw [e]; omega
        · exact Nat.le_refl _
    · rw [ly, if_neg hi]; exact ⟨h q hq, Nat.le_refl _⟩
theorem ly_id {a : Nat → Nat} {k : Nat} : ∀ (n i x : Nat) (lf tk : Nat → Int32) (q : Nat), (ly a k n i x lf tk).2.1 q + (ly a k n i x lf tk).2.2 q = lf q + tk q := by
  intro n
  induction n with
  | zero => intro i x lf tk q; rfl
  | succ n ih =>
    intro i x lf tk q
    by_cases hi : i < k
    · by_cases h1 : lf (sf lf a k i) < nI 1
      · rw [ly, if_pos hi, if_pos h1]
      · rw [ly, if_pos hi, if_neg h1, ih]
        simp only [upd]
        by_cases e : q = sf lf a k i
        · rw [if_pos e, if_pos e, e, Int32.sub_eq_add_neg, i_swap, ← Int32.add_assoc, Int32.add_assoc _ (nI 1), zaddneg, Int32.add_zero]
        · rw [if_neg e, if_neg e]
    · rw [ly, if_neg hi]
/-- the same road with fewer sorts, where there are enough -/
theorem ly_same {a : Nat → Nat} {k : Nat} (ha : ∀ j, j < k → a j < 26) : ∀ (n i x : Nat) (lf lf2 tk : Nat → Int32), (∀ q, q < 29 → nn (lf q)) → (∀ q, q < 29 → nn (lf2 q)) → (∀ q, q < 29 → sn (lf2 q) ≤ sn (lf q)) → ¬ (ly a k n i x lf tk).1 = -1 →
    (∀ q, q < 29 → sn (lf q) ≤ sn ((ly a k n i x lf tk).2.1 q) + sn (lf2 q)) → (ly a k n i x lf2 tk).1 = (ly a k n i x lf tk).1 ∧ (ly a k n i x lf2 tk).2.2 = (ly a k n i x lf tk).2.2 := by
  intro n
  induction n with
  | zero => intro i x lf lf2 tk _ _ _ _ _; exact ⟨rfl, rfl⟩
  | succ n ih =>
    intro i x lf lf2 tk h h2 hle hne hu
    by_cases hi : i < k
    · by_cases h1 : lf (sf lf a k i) < nI 1
      · rw [ly, if_pos hi, if_pos h1] at hne; exact absurd rfl hne
      · have hs := (sf_in (lf := lf) ha hi).1
        have e1 := one_of (h _ hs) h1
        rw [ly, if_pos hi, if_neg h1] at hne hu
        have hm := ly_mono ha n (if 26 ≤ sf lf a k i then i + 2 else i + 1) (x + 1) _ (upd tk (sf lf a k i) (tk (sf lf a k i) + nI 1)) (nn_dec h hs h1)
        have u1 : 1 ≤ sn (lf2 (sf lf a k i)) := by
          have b := hu _ hs
          have c := (hm _ hs).2
          rw [sn_dec (h _ hs) e1, if_pos rfl] at c
          omega
        have hsf : sf lf2 a k i = sf lf a k i := by
          unfold sf
          by_cases g : gl a k i ≠ 0 ∧ 0 < lf (gl a k i)
          · have e : sf lf a k i = gl a k i := if_pos g
            rw [e] at u1
            have hg : gl a k i < 29 := by rw [← e]; exact hs
            rw [if_pos g, if_pos ⟨g.1, (pos_of (h2 _ hg) u1).1⟩]
          · rw [if_neg g]
            rcases gl_in a k i with z | ⟨z1, z2, z3⟩
            · rw [if_neg (fun q => q.1 z)]
            · have h0 : sn (lf (gl a k i)) = 0 := by
                rcases Nat.eq_zero_or_pos (sn (lf (gl a k i))) with w | w
                · exact w
                · exact absurd ⟨by omega, (pos_of (h _ z2) w).1⟩ g
              rw [if_neg]
              intro q
              have := hle _ z2
              have w : lf2 (gl a k i) = 0 := by rw [nn_sn (h2 _ z2), show sn (lf2 (gl a k i)) = 0 by omega, nI_0]
              rw [w] at q
              exact absurd q.2 (Int32.lt_irrefl)
        have h1' : ¬ lf2 (sf lf a k i) < nI 1 := (pos_of (h2 _ hs) u1).2
        have L2 : ly a k (n + 1) i x lf2 tk = ly a k n (if 26 ≤ sf lf a k i then i + 2 else i + 1) (x + 1) (upd lf2 (sf lf a k i) (lf2 (sf lf a k i) - nI 1)) (upd tk (sf lf a k i) (tk (sf lf a k i) + nI 1)) := by
          rw [ly, if_pos hi, hsf, if_neg h1']
        rw [L2, ly, if_pos hi, if_neg h1]
        refine ih _ _ _ _ _ (nn_dec h hs h1) (nn_dec h2 hs h1') (fun q hq => ?_) hne (fun q hq => ?_)
        · rw [sn_dec (h _ hs) e1, sn_dec (h2 _ hs) u1]
          have := hle q hq
          split
          · rename_i e; rw [e] at this; omega
          · exact this
        · have := hu q hq
          rw [sn_dec (h _ hs) e1, sn_dec (h2 _ hs) u1]
          split
          · rename_i e; rw [e] at this ⊢; omega
          · exact this
    · rw [ly, if_neg hi, ly, if_neg hi]; exact ⟨rfl, rfl⟩
theorem ly_r {a : Nat → Nat} {k : Nat} : ∀ (n i x : Nat) (lf tk : Nat → Int32), (ly a k n i x lf tk).1 = -1 ∨ ∃ c, x ≤ c ∧ c ≤ x + n ∧ (ly a k n i x lf tk).1 = nI c ∧ (i < k → 0 < n → x < c) := by
  intro n
  induction n with
  | zero => intro i x lf tk; exact Or.inr ⟨x, Nat.le_refl _, Nat.le_refl _, rfl, fun _ h => absurd h (Nat.lt_irrefl 0)⟩
  | succ n ih =>
    intro i x lf tk
    by_cases hi : i < k
    · by_cases h1 : lf (sf lf a k i) < nI 1
      · rw [ly, if_pos hi, if_pos h1]; exact Or.inl rfl
      · rw [ly, if_pos hi, if_neg h1]
        rcases ih (if 26 ≤ sf lf a k i then i + 2 else i + 1) (x + 1) (upd lf (sf lf a k i) (lf (sf lf a k i) - nI 1)) (upd tk (sf lf a k i) (tk (sf lf a k i) + nI 1)) with q | ⟨c, c1, c2, c3, -⟩
        · exact Or.inl q
        · exact Or.inr ⟨c, by omega, by omega, c3, fun _ _ => by omega⟩
    · rw [ly, if_neg hi]; exact Or.inr ⟨x, Nat.le_refl _, by omega, rfl, fun h => absurd h hi⟩
theorem ly0_1 {a : Nat → Nat} {k : Nat} (hk : 1 ≤ k) (lf : Nat → Int32) : (ly0 a k lf).1 = -1 ↔ (ly0 a k lf).1 < nI 1 := by
  rcases ly_r (a := a) (k := k) 6 0 0 lf (fun _ => 0) with q | ⟨c, c1, c2, c3, c4⟩
  · have q : (ly0 a k lf).1 = -1 := q
    rw [q]
    exact ⟨fun _ => by decide, fun _ => rfl⟩
  · have c3 : (ly0 a k lf).1 = nI c := c3
    have := c4 (by omega) (by omega)
    rw [c3]
    exact ⟨fun h => absurd h (nI_m1 (by omega)), fun h => by have := (nI_ltI (by omega) (by omega)).mp h; omega⟩
/-- no sign is taken more often than there are steps -/
theorem ly_tk {a : Nat → Nat} {k : Nat} : ∀ (n i x : Nat) (lf tk : Nat → Int32) (q : Nat), nn (tk q) → sn (tk q) + n < 2 ^ 31 → nn ((ly a k n i x lf tk).2.2 q) ∧ sn ((ly a k n i x lf tk).2.2 q) ≤ sn (tk q) + n := by
  intro n
  induction n with
  | zero => intro i x lf tk q h _; exact ⟨h, Nat.le_refl _⟩
  | succ n ih =>
    intro i x lf tk q h hb
    by_cases hi : i < k
    · by_cases h1 : lf (sf lf a k i) < nI 1
      · rw [ly, if_pos hi, if_pos h1]; exact ⟨h, Nat.le_add_right _ _⟩
      · rw [ly, if_pos hi, if_neg h1]
        have e : nn (upd tk (sf lf a k i) (tk (sf lf a k i) + nI 1) q) ∧ sn (upd tk (sf lf a k i) (tk (sf lf a k i) + nI 1) q) ≤ sn (tk q) + 1 := by
          simp only [upd]
          by_cases e : q = sf lf a k i
          · rw [if_pos e, ← e]
            have e3 : tk q + nI 1 = nI (sn (tk q) + 1) := by
              conv => lhs; lhs; rw [nn_sn h]
              exact nI_add _ _
            rw [e3, sn_nI (by omega)]
            exact ⟨nn_nI (by omega), Nat.le_refl _⟩
          · rw [if_neg e]; exact ⟨h, Nat.le_add_right _ _⟩
        obtain ⟨g1, g2⟩ := ih (if 26 ≤ sf lf a k i then i + 2 else i + 1) (x + 1) (upd lf (sf lf a k i) (lf (sf lf a k i) - nI 1)) _ q e.1 (by omega)
        exact ⟨g1, by omega⟩
    · rw [ly, if_neg hi]; exact ⟨h, Nat.le_add_right _ _⟩
theorem ly0_tk (a : Nat → Nat) (k : Nat) (lf : Nat → Int32) (q : Nat) : nn ((ly0 a k lf).2.2 q) ∧ sn ((ly0 a k lf).2.2 q) ≤ 6 := by
  have z : sn (0 : Int32) = 0 := by decide
  have := ly_tk (a := a) (k := k) 6 0 0 lf (fun _ => 0) q (Int32.le_refl 0) (by rw [z]; omega)
  rw [z, Nat.zero_add] at this
  exact this
theorem ly0_id (a : Nat → Nat) (k : Nat) (lf : Nat → Int32) (q : Nat) : (ly0 a k lf).2.1 q = lf q - (ly0 a k lf).2.2 q := by
  have := ly_id (a := a) (k := k) 6 0 0 lf (fun _ => 0) q
  have h2 : (ly0 a k lf).2.1 q + (ly0 a k lf).2.2 q = lf q := this.trans (Int32.add_zero _)
  rw [← h2, Int32.add_sub_cancel]
/-- a word at a time, as often as it goes -/
def M1 (a : Nat → Nat) (k : Nat) (x : Int32) (lf : Nat → Int32) : Int32 := mt a k (tt lf 29 + 1) x lf
theorem mt_fuel {a : Nat → Nat} {k : Nat} (hk : 1 ≤ k) (ha : ∀ j, j < k → a j < 26) : ∀ (n n2 : Nat) (x : Int32) (lf : Nat → Int32), (∀ q, q < 29 → nn (lf q)) → tt lf 29 < n → tt lf 29 < n2 → mt a k n x lf = mt a k n2 x lf := by
  intro n
  induction n with
  | zero => intro n2 x lf _ h; omega
  | succ n ih =>
    intro n2 x lf hn h1 h2
    by_cases q : (ly0 a k lf).1 = -1
    · rw [mt_no q, mt_no q]
    · obtain ⟨n3, rfl⟩ : ∃ n3, n2 = n3 + 1 := ⟨n2 - 1, by omega⟩
      have := ly0_tot hk ha hn q
      rw [mt_s q, mt_s q]
      exact ih n3 _ _ (fun q9 h9 => (ly_mono ha 6 0 0 lf (fun _ => 0) hn q9 h9).1) (by omega) (by omega)
theorem M1_s {a : Nat → Nat} {k : Nat} (hk : 1 ≤ k) (ha : ∀ j, j < k → a j < 26) {x : Int32} {lf : Nat → Int32} (hn : ∀ q, q < 29 → nn (lf q)) (h : ¬ (ly0 a k lf).1 = -1) : M1 a k x lf = M1 a k (x + nI 1) (ly0 a k lf).2.1 := by
  unfold M1
  rw [mt_s h]
  have := ly0_tot hk ha hn h
  exact mt_fuel hk ha _ _ _ _ (fun q9 h9 => (ly_mono ha 6 0 0 lf (fun _ => 0) hn q9 h9).1) (by omega) (by omega)
theorem M1_no {a : Nat → Nat} {k : Nat} {x : Int32} {lf : Nat → Int32} (h : (ly0 a k lf).1 = -1) : M1 a k x lf = x := mt_no h
def lfd (lf tk : Nat → Int32) (d : Nat) : Nat → Int32 := fun q => lf q - nI d * tk q
theorem lfd_sn {lf tk : Nat → Int32} {d q : Nat} (h1 : nn (lf q)) (h2 : nn (tk q)) (h : d * sn (tk q) ≤ sn (lf q)) : nn (lfd lf tk d q) ∧ sn (lfd lf tk d q) = sn (lf q) - d * sn (tk q) := by
  have e : lfd lf tk d q = nI (sn (lf q) - d * sn (tk q)) := by
    unfold lfd
    conv => lhs; rw [nn_sn h1, nn_sn h2, pk_mul]
    exact pk_sub h
  have l := sn_lt (lf q)
  rw [e, sn_nI (by omega)]
  exact ⟨nn_nI (by omega), rfl⟩
theorem lfd_s (lf tk : Nat → Int32) (d : Nat) : (fun q => lfd lf tk d q - tk q) = lfd lf tk (d + 1) := by
  funext q
  unfold lfd
  rw [← nI_1, Int32.add_mul, Int32.one_mul, Int32.sub_eq_add_neg, Int32.sub_eq_add_neg, Int32.sub_eq_add_neg, Int32.neg_add, Int32.sub_eq_add_neg, Int32.add_assoc]
theorem ly0_keep' {a : Nat → Nat} {k : Nat} (ha : ∀ j, j < k → a j < 26) {lf : Nat → Int32} (hn : ∀ q, q < 29 → nn (lf q)) : ∀ q, q < 29 → sn ((ly0 a k lf).2.1 q) + sn ((ly0 a k lf).2.2 q) = sn (lf q) := fun q hq => by
  have hn1 : ∀ q, q < 29 → nn ((ly0 a k lf).2.1 q) ∧ sn ((ly0 a k lf).2.1 q) ≤ sn (lf q) := ly_mono ha 6 0 0 lf (fun _ => 0) hn
  have ht : ∀ q, nn ((ly0 a k lf).2.2 q) ∧ sn ((ly0 a k lf).2.2 q) ≤ 6 := ly0_tk a k lf
  have e := ly0_id a k lf q
  have e2 : lf q = nI (sn ((ly0 a k lf).2.1 q) + sn ((ly0 a k lf).2.2 q)) := by
    rw [← nI_add, ← nn_sn (hn1 q hq).1, ← nn_sn (ht q).1, e, Int32.sub_add_cancel]
  have l1 := sn_lt (lf q)
  have l2 := (hn1 q hq).2
  have l3 := (ht q).2
  rcases Nat.lt_or_ge (sn ((ly0 a k lf).2.1 q) + sn ((ly0 a k lf).2.2 q)) (2 ^ 31) with w | w
  · rw [e2, sn_nI w]
  · exfalso
    have hv : nn (nI (sn ((ly0 a k lf).2.1 q) + sn ((ly0 a k lf).2.2 q))) := by rw [← e2]; exact hn q hq
    have h5 : (nI (sn ((ly0 a k lf).2.1 q) + sn ((ly0 a k lf).2.2 q))).toInt < 0 := by
      show (Int32.ofNat _).toInt < 0
      rw [Int32.toInt_ofNat', show (Int32.size : Nat) = 2 ^ 32 from rfl]
      have : ((sn ((ly0 a k lf).2.1 q) + sn ((ly0 a k lf).2.2 q) : Nat) : Int).bmod (2 ^ 32) = ((sn ((ly0 a k lf).2.1 q) + sn ((ly0 a k lf).2.2 q) : Nat) : Int) - 2 ^ 32 := by
        rw [Int.bmod_def]
        split <;> omega
      omega
    have h6 := Int32.le_iff_toInt_le.mp hv
    rw [Int32.toInt_zero] at h6
    omega
theorem M1_rep {a : Nat → Nat} {k : Nat} (hk : 1 ≤ k) (ha : ∀ j, j < k → a j < 26) {x : Int32} {lf : Nat → Int32} (hn : ∀ q, q < 29 → nn (lf q)) (h : ¬ (ly0 a k lf).1 = -1) : ∀ d, (∀ q, q < 29 → d * sn ((ly0 a k lf).2.2 q) ≤ sn ((ly0 a k lf).2.1 q)) →
    M1 a k x (ly0 a k lf).2.1 = M1 a k (x + nI d) (lfd (ly0 a k lf).2.1 (ly0 a k lf).2.2 d) := by
  intro d
  have hn1 : ∀ q, q < 29 → nn ((ly0 a k lf).2.1 q) ∧ sn ((ly0 a k lf).2.1 q) ≤ sn (lf q) := ly_mono ha 6 0 0 lf (fun _ => 0) hn
  have ht : ∀ q, nn ((ly0 a k lf).2.2 q) ∧ sn ((ly0 a k lf).2.2 q) ≤ 6 := ly0_tk a k lf
  induction d with
  | zero =>
    intro _
    have e : lfd (ly0 a k lf).2.1 (ly0 a k lf).2.2 0 = (ly0 a k lf).2.1 := by
      funext q
      unfold lfd
      rw [nI_0, Int32.zero_mul, Int32.sub_zero]
    rw [e, nI_0, Int32.add_zero]
  | succ d ih =>
    intro hd
    have hd0 : ∀ q, q < 29 → d * sn ((ly0 a k lf).2.2 q) + sn ((ly0 a k lf).2.2 q) ≤ sn ((ly0 a k lf).2.1 q) := fun q hq => by
      have := hd q hq
      rw [Nat.succ_mul] at this
      exact this
    rw [ih (fun q hq => by have := hd0 q hq; omega)]
    have hl : ∀ q, q < 29 → nn (lfd (ly0 a k lf).2.1 (ly0 a k lf).2.2 d q) ∧ sn (lfd (ly0 a k lf).2.1 (ly0 a k lf).2.2 d q) = sn ((ly0 a k lf).2.1 q) - d * sn ((ly0 a k lf).2.2 q) := fun q hq => lfd_sn (hn1 q hq).1 (ht q).1 (by have := hd0 q hq; omega)
    have kp := ly0_keep' ha hn
    obtain ⟨s1, s2⟩ := ly_same ha 6 0 0 lf (lfd (ly0 a k lf).2.1 (ly0 a k lf).2.2 d) (fun _ => 0) hn (fun q hq => (hl q hq).1) (fun q hq => by rw [(hl q hq).2]; have := (hn1 q hq).2; omega) h (fun q hq => by
      rw [(hl q hq).2]
      have := kp q hq
      have := hd0 q hq
      show sn (lf q) ≤ sn ((ly0 a k lf).2.1 q) + _
      omega)
    have s1 : (ly0 a k (lfd (ly0 a k lf).2.1 (ly0 a k lf).2.2 d)).1 = (ly0 a k lf).1 := s1
    have s2 : (ly0 a k (lfd (ly0 a k lf).2.1 (ly0 a k lf).2.2 d)).2.2 = (ly0 a k lf).2.2 := s2
    rw [M1_s hk ha (fun q hq => (hl q hq).1) (by rw [s1]; exact h)]
    have e : (ly0 a k (lfd (ly0 a k lf).2.1 (ly0 a k lf).2.2 d)).2.1 = lfd (ly0 a k lf).2.1 (ly0 a k lf).2.2 (d + 1) := by
      rw [← lfd_s]
      funext q
      rw [ly0_id, s2]
    rw [e, Int32.add_assoc, nI_add]
def agN (lf tk : Nat → Int32) : Nat → Nat
  | 0 => 2147483647
  | n + 1 => if 0 < sn (tk n) then min (agN lf tk n) (sn (lf n) / sn (tk n)) else agN lf tk n
theorem agN_lt (lf tk : Nat → Int32) : ∀ n, agN lf tk n < 2 ^ 31
  | 0 => by unfold agN; omega
  | n + 1 => by
    have := agN_lt lf tk n
    unfold agN
    split
    · exact Nat.lt_of_le_of_lt (Nat.min_le_left _ _) this
    · exact this
theorem ag_nI {lf tk : Nat → Int32} (h1 : ∀ q, q < 29 → nn (lf q)) (h2 : ∀ q, nn (tk q)) : ∀ n, n ≤ 29 → ag lf tk n = nI (agN lf tk n)
  | 0, _ => rfl
  | n + 1, hn => by
    have ih := ag_nI h1 h2 n (by omega)
    by_cases h : 0 < sn (tk n)
    · have e1 : ag lf tk (n + 1) = mn (ag lf tk n) (lf n / tk n) := by rw [ag, if_pos (pos_of (h2 n) h).1]
      have e2 : agN lf tk (n + 1) = min (agN lf tk n) (sn (lf n) / sn (tk n)) := by rw [agN, if_pos h]
      have e3 : lf n / tk n = nI (sn (lf n) / sn (tk n)) := by
        conv => lhs; rw [nn_sn (h1 n (by omega)), nn_sn (h2 n)]
        exact pk_div (sn_lt _) h (sn_lt _)
      have l : sn (lf n) / sn (tk n) ≤ sn (lf n) := Nat.div_le_self _ _
      have l2 := sn_lt (lf n)
      rw [e1, e2, ih, e3, mn_nI (agN_lt _ _ _) (by omega)]
    · have e0 : tk n = 0 := by rw [nn_sn (h2 n), show sn (tk n) = 0 by omega, nI_0]
      have e1 : ag lf tk (n + 1) = ag lf tk n := by rw [ag, if_neg (by rw [e0]; exact Int32.lt_irrefl)]
      have e2 : agN lf tk (n + 1) = agN lf tk n := by rw [agN, if_neg h]
      rw [e1, e2, ih]
theorem agN_le (lf tk : Nat → Int32) : ∀ n q, q < n → agN lf tk n * sn (tk q) ≤ sn (lf q)
  | 0, q, h => by omega
  | n + 1, q, h => by
    have key : agN lf tk (n + 1) ≤ agN lf tk n := by
      rw [show agN lf tk (n + 1) = if 0 < sn (tk n) then min (agN lf tk n) (sn (lf n) / sn (tk n)) else agN lf tk n from rfl]
      split
      · exact Nat.min_le_left _ _
      · exact Nat.le_refl _
    rcases Nat.lt_or_ge q n with w | w
    · exact Nat.le_trans (Nat.mul_le_mul_right _ key) (agN_le lf tk n q w)
    · obtain rfl : q = n := by omega
      by_cases h0 : 0 < sn (tk q)
      · have e2 : agN lf tk (q + 1) ≤ sn (lf q) / sn (tk q) := by rw [agN, if_pos h0]; exact Nat.min_le_right _ _
        exact Nat.le_trans (Nat.mul_le_mul_right _ e2) (Nat.div_mul_le_self _ _)
      · rw [show sn (tk q) = 0 by omega, Nat.mul_zero]; exact Nat.zero_le _
theorem agN_at (lf tk : Nat → Int32) : ∀ n, (∀ q, q < n → sn (tk q) = 0) ∧ agN lf tk n = 2147483647 ∨ ∃ q, q < n ∧ 0 < sn (tk q) ∧ sn (lf q) / sn (tk q) ≤ agN lf tk n
  | 0 => Or.inl ⟨fun q h => by omega, rfl⟩
  | n + 1 => by
    by_cases h0 : 0 < sn (tk n)
    · have e : agN lf tk (n + 1) = min (agN lf tk n) (sn (lf n) / sn (tk n)) := by rw [agN, if_pos h0]
      have l : sn (lf n) / sn (tk n) ≤ sn (lf n) := Nat.div_le_self _ _
      have l2 := sn_lt (lf n)
      rcases agN_at lf tk n with ⟨a, b⟩ | ⟨q, a, b, c⟩
      · exact Or.inr ⟨n, by omega, h0, by rw [e, b]; omega⟩
      · rcases Nat.le_total (agN lf tk n) (sn (lf n) / sn (tk n)) with w | w
        · exact Or.inr ⟨q, by omega, b, by rw [e, Nat.min_eq_left w]; exact c⟩
        · exact Or.inr ⟨n, by omega, h0, by rw [e, Nat.min_eq_right w]; exact Nat.le_refl _⟩
    · have e : agN lf tk (n + 1) = agN lf tk n := by rw [agN, if_neg h0]
      rcases agN_at lf tk n with ⟨a, b⟩ | ⟨q, a, b, c⟩
      · refine Or.inl ⟨fun q hq => ?_, by rw [e, b]⟩
        rcases Nat.lt_or_ge q n with w | w
        · exact a q w
        · rw [show q = n by omega]; omega
      · exact Or.inr ⟨q, by omega, b, by rw [e]; exact c⟩
def mu (lf : Nat → Int32) : Nat → Nat
  | 0 => 0
  | n + 1 => mu lf n + min (sn (lf n)) 6
theorem mu_le (lf : Nat → Int32) : ∀ n, mu lf n ≤ 6 * n
  | 0 => Nat.le_refl _
  | n + 1 => by
    have := mu_le lf n
    have h2 := Nat.min_le_right (sn (lf n)) 6
    show mu lf n + min (sn (lf n)) 6 ≤ _
    omega
theorem mu_lt {f g : Nat → Int32} : ∀ n, (∀ q, q < n → sn (f q) ≤ sn (g q)) → mu f n ≤ mu g n ∧ ((∃ q, q < n ∧ sn (f q) < sn (g q) ∧ sn (f q) < 6) → mu f n < mu g n)
  | 0, _ => ⟨Nat.le_refl _, fun ⟨q, h, _⟩ => by omega⟩
  | n + 1, h => by
    obtain ⟨a, b⟩ := mu_lt n (fun q hq => h q (by omega))
    have c := h n (by omega)
    have e1 : mu f (n + 1) = mu f n + min (sn (f n)) 6 := rfl
    have e2 : mu g (n + 1) = mu g n + min (sn (g n)) 6 := rfl
    refine ⟨by omega, ?_⟩
    rintro ⟨q, h1, h2, h3⟩
    rcases Nat.lt_or_ge q n with w | w
    · have := b ⟨q, w, h2, h3⟩
      omega
    · obtain rfl : q = n := by omega
      omega
theorem lt1_M1 {a : Nat → Nat} {k : Nat} (hk : 1 ≤ k) (ha : ∀ j, j < k → a j < 26) : ∀ (n : Nat) (x : Int32) (lf : Nat → Int32), (∀ q, q < 29 → nn (lf q)) → mu lf 29 < n → lt1 a k n x lf = M1 a k x lf := by
  intro n
  induction n with
  | zero => intro x lf _ h; omega
  | succ n ih =>
    intro x lf hn hm
    by_cases h : (ly0 a k lf).1 = -1
    · rw [M1_no h, lt1, if_pos ((ly0_1 hk lf).mp h)]
    · have hn1 : ∀ q, q < 29 → nn ((ly0 a k lf).2.1 q) ∧ sn ((ly0 a k lf).2.1 q) ≤ sn (lf q) := ly_mono ha 6 0 0 lf (fun _ => 0) hn
      have ht : ∀ q, nn ((ly0 a k lf).2.2 q) ∧ sn ((ly0 a k lf).2.2 q) ≤ 6 := ly0_tk a k lf
      have kp := ly0_keep' ha hn
      have hag := ag_nI (fun q hq => (hn1 q hq).1) (fun q => (ht q).1) 29 (Nat.le_refl _)
      have hle := fun q hq => agN_le (ly0 a k lf).2.1 (ly0 a k lf).2.2 29 q hq
      have hsa : sa (ly0 a k lf).2.1 (ly0 a k lf).2.2 = lfd (ly0 a k lf).2.1 (ly0 a k lf).2.2 (agN (ly0 a k lf).2.1 (ly0 a k lf).2.2 29) := by
        funext q
        unfold sa lfd
        rw [hag]
      have hl := fun q hq => lfd_sn (hn1 q hq).1 (ht q).1 (hle q hq)
      rw [lt1, if_neg (fun q => h ((ly0_1 hk lf).mpr q)), hsa, M1_s hk ha hn h, M1_rep hk ha hn h _ hle, hag, ← Int32.add_assoc]
      refine ih _ _ (fun q hq => (hl q hq).1) ?_
      have hlt : mu (lfd (ly0 a k lf).2.1 (ly0 a k lf).2.2 (agN (ly0 a k lf).2.1 (ly0 a k lf).2.2 29)) 29 < mu lf 29 := by
        refine (mu_lt 29 (fun q hq => by rw [(hl q hq).2]; have := (hn1 q hq).2; omega)).2 ?_
        have htot := ly0_tot hk ha hn h
        rcases agN_at (ly0 a k lf).2.1 (ly0 a k lf).2.2 29 with ⟨z, -⟩ | ⟨q, hq, z1, z2⟩
        · exfalso
          have : tt lf 29 ≤ tt (ly0 a k lf).2.1 29 := tt_le 29 (fun q hq => by have := kp q hq; have := z q hq; omega)
          omega
        · have z3 : sn ((ly0 a k lf).2.1 q) < (agN (ly0 a k lf).2.1 (ly0 a k lf).2.2 29 + 1) * sn ((ly0 a k lf).2.2 q) := (Nat.div_lt_iff_lt_mul z1).mp (by omega)
          rw [Nat.succ_mul] at z3
          have e := (hl q hq).2
          have := kp q hq
          have := (ht q).2
          refine ⟨q, hq, by rw [e]; omega, by rw [e]; omega⟩
      omega
theorem times_eq {a : Nat → Nat} {k : Nat} (hk : 1 ≤ k) (ha : ∀ j, j < k → a j < 26) {lf : Nat → Int32} (hn : ∀ q, q < 29 → nn (lf q)) : lt1 a k 1000 0 lf = mt a k (tt lf 29 + 1) 0 lf :=
  lt1_M1 hk ha 1000 0 lf hn (by have := mu_le lf 29; omega)
/-- with plenty, the road is the same -/
theorem ly_plenty {a : Nat → Nat} {k : Nat} (ha : ∀ j, j < k → a j < 26) : ∀ (n i x : Nat) (lf lf2 tk : Nat → Int32), (∀ q, q < 29 → nn (lf q) ∧ n ≤ sn (lf q)) → (∀ q, q < 29 → nn (lf2 q) ∧ n ≤ sn (lf2 q)) → (ly a k n i x lf tk).2.2 = (ly a k n i x lf2 tk).2.2 := by
  intro n
  induction n with
  | zero => intro i x lf lf2 tk _ _; rfl
  | succ n ih =>
    intro i x lf lf2 tk h h2
    by_cases hi : i < k
    · have hs := (sf_in (lf := lf) ha hi).1
      have hsf : sf lf2 a k i = sf lf a k i := by
        unfold sf
        rcases gl_in a k i with z | ⟨z1, z2, z3⟩
        · rw [if_neg (fun q => q.1 z), if_neg (fun q => q.1 z)]
        · rw [if_pos ⟨by omega, (pos_of (h2 _ z2).1 (by have := (h2 _ z2).2; omega)).1⟩, if_pos ⟨by omega, (pos_of (h _ z2).1 (by have := (h _ z2).2; omega)).1⟩]
      have p1 := h _ hs
      have p2 := h2 _ hs
      have L1 : ly a k (n + 1) i x lf tk = ly a k n (if 26 ≤ sf lf a k i then i + 2 else i + 1) (x + 1) (upd lf (sf lf a k i) (lf (sf lf a k i) - nI 1)) (upd tk (sf lf a k i) (tk (sf lf a k i) + nI 1)) := by
        rw [ly, if_pos hi, if_neg (pos_of p1.1 (by omega)).2]
      have L2 : ly a k (n + 1) i x lf2 tk = ly a k n (if 26 ≤ sf lf a k i then i + 2 else i + 1) (x + 1) (upd lf2 (sf lf a k i) (lf2 (sf lf a k i) - nI 1)) (upd tk (sf lf a k i) (tk (sf lf a k i) + nI 1)) := by
        rw [ly, if_pos hi, hsf, if_neg (pos_of p2.1 (by omega)).2]
      rw [L1, L2]
      refine ih _ _ _ _ _ (fun q hq => ⟨nn_dec (fun q hq => (h q hq).1) hs (pos_of p1.1 (by omega)).2 q hq, ?_⟩) (fun q hq => ⟨nn_dec (fun q hq => (h2 q hq).1) hs (pos_of p2.1 (by omega)).2 q hq, ?_⟩)
      · rw [sn_dec p1.1 (by omega)]
        have := (h q hq).2
        split <;> omega
      · rw [sn_dec p2.1 (by omega)]
        have := (h2 q hq).2
        split <;> omega
    · rw [ly, if_neg hi, ly, if_neg hi]
theorem saves_eq {a b : Nat → Nat} {k h : Nat} (ha : ∀ j, j < k → a j < 26) (hb : ∀ j, j < h → b j < 26) : (svS (ly0 b h (ly0 a k (fun _ => nI 100)).2.1).2.1 3).1 = (svP (svQ (ly0 a k (fun _ => nI 9)).2.2 (ly0 b h (fun _ => nI 9)).2.2) 3).1 := by
  have c9 : sn (nI 9) = 9 := by decide
  have c100 : sn (nI 100) = 100 := by decide
  have t1 : (ly0 a k (fun _ => nI 100)).2.2 = (ly0 a k (fun _ => nI 9)).2.2 := ly_plenty ha 6 0 0 _ _ _ (fun q _ => ⟨nn_nI (by omega), by rw [c100]; omega⟩) (fun q _ => ⟨nn_nI (by omega), by rw [c9]; omega⟩)
  have i1 := ly0_keep' (lf := fun _ => nI 100) ha (fun q _ => nn_nI (by omega))
  have m1 : ∀ q, q < 29 → nn ((ly0 a k (fun _ => nI 100)).2.1 q) ∧ _ := ly_mono ha 6 0 0 (fun _ => nI 100) (fun _ => 0) (fun q _ => nn_nI (by omega))
  have s1 := ly0_tk a k (fun _ => nI 100)
  have t2 : (ly0 b h (ly0 a k (fun _ => nI 100)).2.1).2.2 = (ly0 b h (fun _ => nI 9)).2.2 := ly_plenty hb 6 0 0 _ _ _ (fun q hq => ⟨(m1 q hq).1, by have := i1 q hq; have := (s1 q).2; rw [c100] at *; omega⟩) (fun q _ => ⟨nn_nI (by omega), by rw [c9]; omega⟩)
  have key : ∀ q, nI 100 - (ly0 b h (ly0 a k (fun _ => nI 100)).2.1).2.1 q = (ly0 a k (fun _ => nI 9)).2.2 q + (ly0 b h (fun _ => nI 9)).2.2 q := fun q => by
    rw [ly0_id b h, ly0_id a k, t1, t2, Int32.sub_eq_add_neg, Int32.sub_eq_add_neg, Int32.sub_eq_add_neg, Int32.neg_add, Int32.neg_add, Int32.sub_eq_add_neg, Int32.neg_neg, Int32.sub_eq_add_neg, Int32.neg_neg, ← Int32.add_assoc, ← Int32.add_assoc, zaddneg, Int32.zero_add]
  have : ∀ j, svS (ly0 b h (ly0 a k (fun _ => nI 100)).2.1).2.1 j = svP (svQ (ly0 a k (fun _ => nI 9)).2.2 (ly0 b h (fun _ => nI 9)).2.2) j := by
    intro j
    induction j with
    | zero => rfl
    | succ j ih =>
      have e : svQ (ly0 a k (fun _ => nI 9)).2.2 (ly0 b h (fun _ => nI 9)).2.2 (26 + j) = nI 100 - (ly0 b h (ly0 a k (fun _ => nI 100)).2.1).2.1 (26 + j) := by
        rw [key]
        unfold svQ
        rw [if_neg (by omega)]
      rw [svS, svP, ih, e]
  rw [this]
