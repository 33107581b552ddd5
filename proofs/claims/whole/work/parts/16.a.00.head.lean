/-! ===== the reference ===== -/
noncomputable def bI (P : Prop) : Int32 := @ite Int32 P (Classical.propDecidable P) (nI 1) (nI 0)
theorem bI_t {P : Prop} (h : P) : nI 1 = bI P := by unfold bI; rw [if_pos h]
theorem bI_f {P : Prop} (h : ¬ P) : nI 0 = bI P := by unfold bI; rw [if_neg h]
theorem bI_e {P : Prop} (h : bI P = 0) : ¬ P := fun q => by rw [← bI_t q] at h; exact absurd h (by decide)
theorem bI_n {P : Prop} (h : ¬ bI P = 0) : P := by
  rcases Classical.em P with q | q
  · exact q
  · rw [← bI_f q] at h; exact absurd nI_0 h
theorem bI_z (P : Prop) : narrow .boolean (.int (bI P)) = .int (bI P) := by
  rcases Classical.em P with q | q
  · rw [← bI_t q]; rfl
  · rw [← bI_f q]; rfl
theorem zof_iff {x : Int32} {n : Nat} (hn : n < 2 ^ 31) : (nI 0 ≤ x ∧ x.toInt ≤ (n : Int) - 1) ↔ (sn x < n ∧ x = nI (sn x)) := by
  constructor
  · rintro ⟨h1, h2⟩
    have h3 := Int32.le_iff_toInt_le.mp h1
    rw [nI_toInt (by omega)] at h3
    obtain ⟨e1, e2⟩ := zsn (x := x) (by omega)
    exact ⟨by omega, e1⟩
  · rintro ⟨h1, h2⟩
    rw [h2]
    refine ⟨(nI_leI (by omega) (by omega)).mpr (Nat.zero_le _), ?_⟩
    rw [nI_toInt (by omega)]
    omega
theorem zin_iff {x : Int32} {n : Nat} (hn : n + 1 < 2 ^ 31) : (nI 0 ≤ x ∧ x ≤ nI n) ↔ (sn x < n + 1 ∧ x = nI (sn x)) := by
  rw [← zof_iff (by omega), Int32.le_iff_toInt_le (x := x) (y := nI n), nI_toInt (by omega)]
  constructor
  · rintro ⟨h1, h2⟩; exact ⟨h1, by omega⟩
  · rintro ⟨h1, h2⟩; exact ⟨h1, by omega⟩
theorem isP_iff {x : Int32} {n : Nat} (hn : n ≤ 6) : (nI 0 ≤ x ∧ x ≤ nI n - nI 1) ↔ isP x n := by
  unfold isP
  rw [← zof_iff (by omega), Int32.le_iff_toInt_le (x := x) (y := nI n - nI 1), pk_sub_toInt (by omega) (by omega)]
  exact Iff.rfl
theorem isT_iff {x : Int32} : (nI 1 ≤ x ∧ x ≤ nI 9) ↔ isT x := by
  constructor
  · rintro ⟨h1, h2⟩
    refine isT_of (Int32.not_lt.mpr h1) (Int32.lt_iff_toInt_lt.mpr ?_)
    have := Int32.le_iff_toInt_le.mp h2
    rw [nI_toInt (by omega)] at this ⊢
    omega
  · rintro ⟨h1, h2⟩
    rw [h2]
    exact ⟨(nI_leI (by omega) (by omega)).mpr h1.1, (nI_leI (by omega) (by omega)).mpr (by omega)⟩
/-- a piece of the store, 290 numbers from the one on -/
def sh (f : Nat → Int32) (fr : Nat) : Nat → Int32 := fun q9 => if q9 < 290 then f (fr + q9) else 0
theorem sh_at {f : Nat → Int32} {fr j : Nat} (h : j < 290) : f (fr + j) = sh f fr j := (if_pos h).symm
theorem many_s {f : Nat → Int32} {fr g j : Nat} (hg : g < 29) (h : j < 10) : f (fr + 10 * g + j) = sg (sh f fr) g j := by
  unfold sg
  rw [← sh_at (by omega)]
  congr 1
  omega
/-- two pieces of the store put anew -/
def put2 (f : Nat → Int32) (fr ta : Nat) (a b : Nat → Int32) : Nat → Int32 := fun q9 => if fr ≤ q9 ∧ q9 < fr + 290 then a (q9 - fr) else if ta ≤ q9 ∧ q9 < ta + 290 then b (q9 - ta) else f q9
theorem put2_0 (f : Nat → Int32) (fr ta : Nat) : f = put2 f fr ta (sh f fr) (sh f ta) := by
  funext i
  unfold put2
  split
  · rw [← sh_at (by omega), Nat.add_sub_cancel' (by omega)]
  · split
    · rw [← sh_at (by omega), Nat.add_sub_cancel' (by omega)]
    · rfl
theorem put2_l {f a b : Nat → Int32} {fr ta j : Nat} (h : j < 290) : put2 f fr ta a b (fr + j) = a j := by
  unfold put2
  rw [if_pos (by omega), Nat.add_sub_cancel_left]
theorem put2_r {f a b : Nat → Int32} {fr ta j : Nat} (hd : fr + 290 ≤ ta ∨ ta + 290 ≤ fr) (h : j < 290) : put2 f fr ta a b (ta + j) = b j := by
  unfold put2
  rw [if_neg (by omega), if_pos (by omega), Nat.add_sub_cancel_left]
theorem put2_ul {f a b : Nat → Int32} {fr ta j : Nat} {x : Int32} (h : j < 290) : upd (put2 f fr ta a b) (fr + j) x = put2 f fr ta (upd a j x) b := by
  funext i
  simp only [upd, put2]
  by_cases h1 : i = fr + j
  · rw [if_pos h1, if_pos (by omega), if_pos (by omega)]
  · rw [if_neg h1]
    split
    · rw [if_neg (by omega)]
    · rfl
theorem put2_ur {f a b : Nat → Int32} {fr ta j : Nat} {x : Int32} (hd : fr + 290 ≤ ta ∨ ta + 290 ≤ fr) (h : j < 290) : upd (put2 f fr ta a b) (ta + j) x = put2 f fr ta a (upd b j x) := by
  funext i
  simp only [upd, put2]
  by_cases h1 : i = ta + j
  · rw [if_pos h1, if_neg (by omega), if_pos (by omega), if_pos (by omega)]
  · rw [if_neg h1]
    split
    · rfl
    · split
      · rw [if_neg (by omega)]
      · rfl
def nn (x : Int32) : Prop := 0 ≤ x
theorem nn_sn {x : Int32} (h : nn x) : x = nI (sn x) := (zsn (x := x) (by have := Int32.le_iff_toInt_le.mp h; rw [Int32.toInt_zero] at this; exact this)).1
theorem sn_lt (x : Int32) : sn x < 2 ^ 31 := by
  have := x.toInt_lt
  show x.toInt.toNat < _
  omega
theorem nn_nI {n : Nat} (h : n < 2 ^ 31) : nn (nI n) := nI_pos' h
theorem mn_nI {a b : Nat} (ha : a < 2 ^ 31) (hb : b < 2 ^ 31) : mn (nI a) (nI b) = nI (min a b) := by
  unfold mn
  by_cases h : b < a
  · rw [if_pos ((nI_ltI hb ha).mpr h), Nat.min_eq_right (by omega)]
  · rw [if_neg (fun q => h ((nI_ltI hb ha).mp q)), Nat.min_eq_left (by omega)]
/-- what the first j places in the order o have of a sign -/
def csum (f : Nat → Int32) (g : Nat) (o : Nat → Nat) : Nat → Nat
  | 0 => 0
  | j + 1 => csum f g o j + sn (f (g * 10 + o j))
theorem mvS_w {o : Nat → Nat} {g q : Nat} {f h : Nat → Int32} (hq : q < 2 ^ 31) (ho : ∀ i j, i < j → j < 10 → o i ≠ o j) (hf : ∀ j, j < 10 → nn (f (g * 10 + o j))) : ∀ j, j ≤ 10 → (mvS o g (nI q) f h j).1 = nI (q - csum f g o j) ∧ ∀ i, j ≤ i → i < 10 → (mvS o g (nI q) f h j).2.2.1 (g * 10 + o i) = f (g * 10 + o i) := by
  intro j
  induction j with
  | zero => intro _; exact ⟨rfl, fun _ _ _ => rfl⟩
  | succ j ih =>
    intro hj
    obtain ⟨h1, h2⟩ := ih (by omega)
    refine ⟨?_, fun i hi hi2 => ?_⟩
    · show (mvS o g (nI q) f h j).1 - mn (mvS o g (nI q) f h j).1 ((mvS o g (nI q) f h j).2.2.1 (g * 10 + o j)) = _
      rw [h1, h2 j (Nat.le_refl j) (by omega), nn_sn (hf j (by omega)), mn_nI (by omega) (sn_lt _), pk_sub (Nat.min_le_left _ _)]
      congr 1
      show _ = q - (csum f g o j + _)
      omega
    · show upd (mvS o g (nI q) f h j).2.2.1 (g * 10 + o j) _ (g * 10 + o i) = _
      have := ho j i (by omega) hi2
      simp only [upd]
      rw [if_neg (by omega)]
      exact h2 i (by omega) hi2
theorem mv_end {o : Nat → Nat} {g q : Nat} {f h : Nat → Int32} (hq : q < 2 ^ 31) (ho : ∀ i j, i < j → j < 10 → o i ≠ o j) (hf : ∀ j, j < 10 → nn (f (g * 10 + o j))) (hs : q ≤ csum f g o 10) {j : Nat} (hj : j ≤ 10) (h0 : ¬ (mvS o g (nI q) f h j).1 ≤ 0) : j < 10 := by
  rcases Nat.lt_or_ge j 10 with q9 | q9
  · exact q9
  · obtain rfl : j = 10 := by omega
    refine absurd ?_ h0
    rw [(mvS_w hq ho hf 10 (Nat.le_refl _)).1, show q - csum f g o 10 = 0 by omega]
    decide
theorem mvT_0 {g o : Nat} {s : Int32 × Int32 × (Nat → Int32) × (Nat → Int32)} (h : s.1 = nI 0) (hn : nn (s.2.2.1 (g * 10 + o))) : mvT g o s = s := by
  have h1 : mn s.1 (s.2.2.1 (g * 10 + o)) = 0 := by
    rw [h, nn_sn hn, mn_nI (by omega) (sn_lt _), Nat.zero_min]
    exact nI_0
  have h2 : ∀ (f : Nat → Int32) (i : Nat), upd f i (f i) = f := fun f i => by
    funext k
    simp only [upd]
    split
    · rename_i q; rw [q]
    · rfl
  unfold mvT
  rw [h1, Int32.sub_zero, Int32.zero_mul, Int32.add_zero, Int32.neg_zero, Int32.add_zero, Int32.add_zero, h2, h2]
theorem mv_stop {o : Nat → Nat} {g q : Nat} {f h : Nat → Int32} (hq : q < 2 ^ 31) (ho : ∀ i j, i < j → j < 10 → o i ≠ o j) (hf : ∀ j, j < 10 → nn (f (g * 10 + o j))) {j : Nat} (h0 : (mvS o g (nI q) f h j).1 ≤ 0) : ∀ d, j + d ≤ 10 → mvS o g (nI q) f h (j + d) = mvS o g (nI q) f h j := by
  intro d
  induction d with
  | zero => intro _; rfl
  | succ d ih =>
    intro hd
    have e := ih (by omega)
    obtain ⟨h1, h2⟩ := mvS_w (h := h) hq ho hf (j + d) (by omega)
    show mvT g (o (j + d)) (mvS o g (nI q) f h (j + d)) = _
    rw [mvT_0 ?_ (by rw [h2 (j + d) (Nat.le_refl _) (by omega)]; exact hf _ (by omega)), e]
    rw [← e, h1] at h0
    rw [h1]
    rcases Nat.eq_zero_or_pos (q - csum f g o (j + d)) with q9 | q9
    · rw [q9]
    · exact absurd h0 (nI_nle q9 (by omega))
theorem mv_10 {o : Nat → Nat} {g q : Nat} {f h : Nat → Int32} (hq : q < 2 ^ 31) (ho : ∀ i j, i < j → j < 10 → o i ≠ o j) (hf : ∀ j, j < 10 → nn (f (g * 10 + o j))) {j : Nat} (hj : j ≤ 10) (h0 : (mvS o g (nI q) f h j).1 ≤ 0) : mvS o g (nI q) f h j = mvS o g (nI q) f h 10 := by
  have := mv_stop (h := h) hq ho hf h0 (10 - j) (by omega)
  rw [show j + (10 - j) = 10 by omega] at this
  exact this.symm
theorem oU_inj : ∀ i j, i < j → j < 10 → oU i ≠ oU j := fun i j h _ => by unfold oU; omega
theorem oD_inj : ∀ i j, i < j → j < 10 → oD i ≠ oD j := fun i j h _ => by unfold oD; omega
/-- one step of a move, in the store -/
theorem mv_K {o : Nat → Nat} {f a b K : Nat → Int32} {fr ta g w : Nat} {x : Int32} (hd : fr + 290 ≤ ta ∨ ta + 290 ≤ fr) (hg : g < 29) (hw : w < 10) (hK : K = put2 f fr ta a b) : K (fr + 10 * g + w) = a (g * 10 + w) ∧
    upd (upd K (fr + 10 * g + w) (K (fr + 10 * g + w) - x)) (ta + 10 * g + w) (upd K (fr + 10 * g + w) (K (fr + 10 * g + w) - x) (ta + 10 * g + w) + x) = put2 f fr ta (upd a (g * 10 + w) (a (g * 10 + w) + -x)) (upd b (g * 10 + w) (b (g * 10 + w) + x)) := by
  subst hK
  rw [show fr + 10 * g + w = fr + (g * 10 + w) by omega, show ta + 10 * g + w = ta + (g * 10 + w) by omega]
  have h1 : put2 f fr ta a b (fr + (g * 10 + w)) = a (g * 10 + w) := put2_l (by omega)
  refine ⟨h1, ?_⟩
  rw [h1, put2_ul (by omega), put2_r hd (by omega), put2_ur hd (by omega), Int32.sub_eq_add_neg]
/-- a word's letters as the reference keeps them -/
def wdM (k : Nat) (a : Nat → Nat) (L : Nat → Int32) : Prop := 1 ≤ k ∧ k ≤ 6 ∧ (∀ i, i < k → a i < 26) ∧ ∀ i, i < k → L i = nI (a i)
theorem wdk_n6 {v j : Nat} (hj : 6 ≤ j) (h2 : v / 27 ^ j ≠ 0) : ∀ k, ¬ wdk v k := fun k hk => h2 (zdiv0 hk.2.2.1 (by have := hk.2.1; omega))
theorem wdk_x {v : Nat} (hv : v < 2 ^ 31) (h : ∀ k, ¬ wdk v k) : ¬ isW (nI v) := by
  rintro ⟨v9, k9, h1, h2, h3⟩
  have h4 : v9 = v := (nI_eq h1 hv).mp h2.symm
  subst h4
  exact h k9 h3
theorem isW_np {x : Int32} (h : x ≤ 0) : ¬ isW x := by
  refine isW_lo (Int32.lt_iff_toInt_lt.mpr ?_)
  have := Int32.le_iff_toInt_le.mp h
  rw [Int32.toInt_zero] at this
  rw [nI_toInt (by omega)]
  omega
def wk (k j : Nat) : Int32 := if j < k then nI (k - 1 - j) else -1
theorem wk_lt {k j : Nat} (h : j < k) : wk k j = nI (k - 1 - j) := if_pos h
theorem wk_ge {k j : Nat} (h : k ≤ j) : wk k j = -1 := if_neg (by omega)
theorem wk_s {k j : Nat} (h : j < k) : nI (k - 1 - j) + Int32.ofInt (-1) = wk k (j + 1) := by
  rcases Nat.lt_or_ge (j + 1) k with q | q
  · rw [wk_lt q, show k - 1 - j = (k - 1 - (j + 1)) + 1 by omega]; exact zdec1 _
  · rw [wk_ge q, show k - 1 - j = 0 by omega]; decide
theorem wl_upd {v k j : Nat} {E : Nat → Int32} (hj : j < k) (h : ∀ i, i < j → E (k - 1 - i) = nI (dgt v i - 1)) : ∀ i, i < j + 1 → upd E (k - 1 - j) (nI (dgt v j - 1)) (k - 1 - i) = nI (dgt v i - 1) := by
  intro i hi
  simp only [upd]
  by_cases q : i = j
  · subst q; rw [if_pos rfl]
  · rw [if_neg (by omega)]; exact h i (by omega)
theorem wdM_of {v k : Nat} {E : Nat → Int32} (hk : wdk v k) (h : ∀ i, i < k → E (k - 1 - i) = nI (dgt v i - 1)) : wdM k (wl v k) E := by
  refine ⟨hk.1, hk.2.1, fun i _ => wl_lt, fun i hi => ?_⟩
  have := h (k - 1 - i) (by omega)
  rw [show k - 1 - (k - 1 - i) = i by omega] at this
  exact this
