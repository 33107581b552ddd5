/-! ===== words ===== -/
/-- two stores that are alike where the cell is -/
theorem z_cong {Z : zT} {s : State} {A : Nat → Prop} {ws : va_W} {H : Heap} {locs : List Loc} (h : zW Z s A ws H locs) (q : Nat) {a n : Nat} {f f' : Nat → Int32} (ha : ws[q]? = some (a, zI Z n f)) (hf : ∀ j, j < n → f j = f' j) : zW Z s A (ws.set q (a, zI Z n f')) H locs := by
  have e : vp_cell Z.2.1 (n, .inl f) = vp_cell Z.2.1 (n, .inl f') := by
    rw [vp_cell_i, vp_cell_i]
    unfold arrV
    congr 1
    refine Array.ext_getElem? fun i => ?_
    by_cases hi : i < n
    · simp [hi, hf i hi]
    · simp [hi]
  have hP := h.1 q _ ha
  refine ⟨h.1.set h.2.1 ha (show H[a]? = some (vp_cell Z.2.1 (n, .inl f')) from ?_) (fun _ _ => rfl), h.2.1.set ha, h.2.2⟩
  rw [← e]
  exact hP
def dgt (v i : Nat) : Nat := v / 27 ^ i % 27
/-- v is a word of k letters -/
def wdk (v k : Nat) : Prop := 1 ≤ k ∧ k ≤ 6 ∧ v / 27 ^ k = 0 ∧ ∀ i, i < k → dgt v i ≠ 0
/-- its letters, from the left -/
def wl (v k i : Nat) : Nat := dgt v (k - 1 - i) - 1
def isW (x : Int32) : Prop := ∃ v k, v < 2 ^ 31 ∧ x = nI v ∧ wdk v k
theorem dgt_lt (v i : Nat) : dgt v i < 27 := Nat.mod_lt _ (by decide)
theorem wl_lt {v k i : Nat} : wl v k i < 26 := by have := dgt_lt v (k - 1 - i); unfold wl; omega
theorem zdiv0 {v j k : Nat} (h : v / 27 ^ j = 0) (hk : j ≤ k) : v / 27 ^ k = 0 := by
  have h1 : v < 27 ^ j := by
    rcases Nat.lt_or_ge v (27 ^ j) with q | q
    · exact q
    · have := Nat.div_pos q (Nat.pow_pos (by decide)); omega
  exact Nat.div_eq_of_lt (Nat.lt_of_lt_of_le h1 (Nat.pow_le_pow_right (by decide) hk))
theorem wdk_uni {v k k' : Nat} (h : wdk v k) (h' : wdk v k') : k = k' := by
  rcases Nat.lt_trichotomy k k' with q | q | q
  · exact absurd (by unfold dgt; rw [h.2.2.1]) (h'.2.2.2 k q)
  · exact q
  · exact absurd (by unfold dgt; rw [h'.2.2.1]) (h.2.2.2 k' q)
theorem wdk_no {v j : Nat} (h : dgt v j = 0) (h2 : v / 27 ^ j ≠ 0) : ∀ k, ¬ wdk v k := by
  intro k hk
  rcases Nat.lt_or_ge j k with q | q
  · exact hk.2.2.2 j q h
  · exact h2 (zdiv0 hk.2.2.1 q)
theorem wdk_range {v k : Nat} (h : wdk v k) : 1 ≤ v ∧ v ≤ 387420488 := by
  obtain ⟨h1, h2, h3, h4⟩ := h
  have h5 := h4 0 (by omega)
  have h6 : v / 27 ^ 6 = 0 := zdiv0 h3 h2
  have h7 : v / 387420489 = 0 := h6
  have h8 : dgt v 0 = v % 27 := by simp [dgt]
  rw [h8] at h5
  omega
theorem zI_of (x : Int32) (h : 0 ≤ x.toInt) : ∃ v : Nat, v < 2 ^ 31 ∧ x = nI v := by
  refine ⟨x.toInt.toNat, by have := x.toInt_lt; omega, ?_⟩
  apply Int32.toInt_inj.mp
  rw [nI_toInt (by have := x.toInt_lt; omega)]
  omega
theorem zn_lt (a b : Int32) : a < b ↔ a.toInt < b.toInt := Int32.lt_iff_toInt_lt
theorem zn_le (a b : Int32) : a ≤ b ↔ a.toInt ≤ b.toInt := Int32.le_iff_toInt_le
theorem isW_range {x : Int32} (h : isW x) : ∃ v, 1 ≤ v ∧ v ≤ 387420488 ∧ x = nI v := by
  obtain ⟨v, k, h1, h2, h3⟩ := h
  exact ⟨v, (wdk_range h3).1, (wdk_range h3).2, h2⟩
theorem isW_lo {x : Int32} (h : x < nI 1) : ¬ isW x := by
  intro hw
  obtain ⟨v, h1, h2, rfl⟩ := isW_range hw
  rw [nI_ltI (by omega) (by omega)] at h
  omega
theorem isW_hi {x : Int32} (h : ¬ x ≤ nI 387420488) : ¬ isW x := by
  intro hw
  obtain ⟨v, h1, h2, rfl⟩ := isW_range hw
  exact h ((nI_leI (by omega) (by omega)).mpr h2)
theorem zrange {x : Int32} (h1 : ¬ x < nI 1) (h2 : x ≤ nI 387420488) : ∃ v : Nat, 1 ≤ v ∧ v ≤ 387420488 ∧ x = nI v := by
  rw [zn_lt, nI_toInt (by omega)] at h1
  rw [zn_le, nI_toInt (by omega)] at h2
  obtain ⟨v, hv, rfl⟩ := zI_of x (by omega)
  rw [nI_toInt hv] at h1 h2
  exact ⟨v, by omega, by omega, rfl⟩
def w5 (j : Nat) : Int32 := if j < 6 then nI (5 - j) else -1
theorem w5_lt {j : Nat} (h : j < 6) : w5 j = nI (5 - j) := if_pos h
theorem w5_ge {j : Nat} (h : 6 ≤ j) : w5 j = -1 := if_neg (by omega)
theorem w5_s {j : Nat} (h : j < 6) : nI (5 - j) + Int32.ofInt (-1) = w5 (j + 1) := by
  rcases Nat.lt_or_ge j 5 with q | q
  · rw [w5_lt (by omega), show 5 - j = (5 - (j + 1)) + 1 by omega]; exact zdec1 _
  · obtain rfl : j = 5 := by omega
    decide
/-- the letters behind j digits -/
def spl (v j : Nat) (L : Nat → Int32) (fp : Int32) : Prop := (∀ i, i < j → dgt v i ≠ 0) ∧ (∀ i, i < j → L (5 - i) = nI (dgt v i - 1)) ∧ (1 ≤ j → fp = nI (6 - j))
theorem spl_0 (v : Nat) (L : Nat → Int32) (fp : Int32) : spl v 0 L fp := ⟨fun i h => absurd h (Nat.not_lt_zero i), fun i h => absurd h (Nat.not_lt_zero i), fun h => absurd h (by decide)⟩
theorem spl_s {v j : Nat} {L : Nat → Int32} {fp : Int32} (h : spl v j L fp) (hj : j < 6) (hd : dgt v j ≠ 0) : spl v (j + 1) (upd L (5 - j) (nI (dgt v j - 1))) (nI (5 - j)) := by
  refine ⟨fun i hi => ?_, fun i hi => ?_, fun _ => by rw [show 6 - (j + 1) = 5 - j by omega]⟩
  · rcases Nat.lt_or_ge i j with q | q
    · exact h.1 i q
    · rw [show i = j by omega]; exact hd
  · rcases Nat.lt_or_ge i j with q | q
    · simp only [upd]; rw [if_neg (by omega)]; exact h.2.1 i q
    · obtain rfl : i = j := by omega
      simp [upd]
theorem spl_r {v j rs : Nat} {L : Nat → Int32} {fp : Int32} (h : spl v j L fp) (hj : j < 6) (hr : rs = v / 27 ^ j) (hd : ¬ rs % 27 = 0) : spl v (j + 1) (upd L (5 - j) (nI (rs % 27 - 1))) (nI (5 - j)) := by subst hr; exact spl_s h hj hd
/-- a word's letters as the class keeps them: at the end of the places -/
def wdC (k : Nat) (a : Nat → Nat) (L : Nat → Int32) : Prop := 1 ≤ k ∧ k ≤ 6 ∧ (∀ i, i < k → a i < 26) ∧ ∀ i, i < k → L (6 - k + i) = nI (a i)
theorem spl_end {v j : Nat} {L : Nat → Int32} {fp : Int32} (h : spl v j L fp) (h1 : 1 ≤ v) (hj : j ≤ 6) (h0 : v / 27 ^ j = 0) : wdk v j ∧ fp = nI (6 - j) ∧ wdC j (wl v j) L := by
  have hj1 : 1 ≤ j := by
    rcases Nat.eq_zero_or_pos j with q | q
    · subst q; simp at h0; omega
    · exact q
  refine ⟨⟨hj1, hj, h0, h.1⟩, h.2.2 hj1, hj1, hj, fun i _ => wl_lt, fun i hi => ?_⟩
  have := h.2.1 (j - 1 - i) (by omega)
  rw [show 5 - (j - 1 - i) = 6 - j + i by omega] at this
  exact this
/-- which ligature two letters are; 0: none -/
def lgN (x y : Nat) : Nat := if x = 5 then (if y = 8 then 26 else if y = 11 then 27 else if y = 5 then 28 else 0) else 0
def gl (a : Nat → Nat) (k i : Nat) : Nat := if i + 1 < k then lgN (a i) (a (i + 1)) else 0
def glI (t : Nat) : Int32 := if t = 0 then -1 else nI t
theorem gl_in (a : Nat → Nat) (k i : Nat) : gl a k i = 0 ∨ (26 ≤ gl a k i ∧ gl a k i < 29 ∧ i + 1 < k) := by
  unfold gl lgN
  split
  · split
    · split
      · omega
      · split
        · omega
        · split <;> omega
    · omega
  · omega
theorem gl_n5 {a : Nat → Nat} {k i : Nat} (h : ¬ a i = 5) : gl a k i = 0 := by
  unfold gl lgN
  rw [if_neg h]; split <;> rfl
/-- the letter behind, -1 behind the last -/
def nx (a : Nat → Nat) (k i : Nat) : Int32 := if i + 1 < k then nI (a (i + 1)) else -1
theorem nx_c {a : Nat → Nat} {k i : Nat} (h5 : a i = 5) (ha : ∀ j, j < k → a j < 26) : (nx a k i = nI 8 → gl a k i = 26) ∧ (nx a k i = nI 11 → gl a k i = 27) ∧ (nx a k i = nI 5 → gl a k i = 28) ∧ (¬ nx a k i = nI 8 → ¬ nx a k i = nI 11 → ¬ nx a k i = nI 5 → gl a k i = 0) := by
  unfold nx gl lgN
  by_cases h : i + 1 < k
  · have := ha (i + 1) h
    simp only [if_pos h, if_pos h5, nI_eq (show a (i + 1) < 2 ^ 31 by omega) (show 8 < 2 ^ 31 by omega), nI_eq (show a (i + 1) < 2 ^ 31 by omega) (show 11 < 2 ^ 31 by omega), nI_eq (show a (i + 1) < 2 ^ 31 by omega) (show 5 < 2 ^ 31 by omega)]
    refine ⟨fun q => by rw [if_pos q], fun q => by rw [if_neg (by omega), if_pos q], fun q => by rw [if_neg (by omega), if_neg (by omega), if_pos q], fun q1 q2 q3 => by rw [if_neg q1, if_neg q2, if_neg q3]⟩
  · simp only [if_neg h]
    exact ⟨fun q => absurd q (by decide), fun q => absurd q (by decide), fun q => absurd q (by decide), fun _ _ _ => trivial⟩
theorem glI_0 {t : Nat} (h : t = 0) : glI t = -1 := if_pos h
theorem glI_n {t : Nat} (h : ¬ t = 0) : glI t = nI t := if_neg h
/-- how often the letter g is among the first i -/
def ho (a : Nat → Nat) (g : Nat) : Nat → Nat
  | 0 => 0
  | i + 1 => ho a g i + if a i = g then 1 else 0
theorem ho_le (a : Nat → Nat) (g : Nat) : ∀ i, ho a g i ≤ i
  | 0 => Nat.le_refl 0
  | i + 1 => by have := ho_le a g i; unfold ho; split <;> omega
theorem ho_t {a : Nat → Nat} {g i : Nat} (h : a i = g) : ho a g i + 1 = ho a g (i + 1) := by rw [ho, if_pos h]
theorem ho_f {a : Nat → Nat} {g i : Nat} (h : ¬ a i = g) : ho a g i = ho a g (i + 1) := by rw [ho, if_neg h]; rfl
/-- the sign that is tried at the place i, the stores' numbers being lf -/
def sf (lf : Nat → Int32) (a : Nat → Nat) (k i : Nat) : Nat := if gl a k i ≠ 0 ∧ 0 < lf (gl a k i) then gl a k i else a i
theorem sf_lig {lf : Nat → Int32} {a : Nat → Nat} {k i : Nat} (h : ¬ gl a k i = 0) (h2 : ¬ lf (gl a k i) ≤ 0) : sf lf a k i = gl a k i := if_pos ⟨h, Int32.not_le.mp h2⟩
theorem sf_let {lf : Nat → Int32} {a : Nat → Nat} {k i : Nat} (h : gl a k i = 0 ∨ lf (gl a k i) ≤ 0) : sf lf a k i = a i := if_neg (fun q => h.elim q.1 (fun h2 => Int32.not_lt.mpr h2 q.2))
theorem sf_in {lf : Nat → Int32} {a : Nat → Nat} {k i : Nat} (ha : ∀ j, j < k → a j < 26) (hi : i < k) : sf lf a k i < 29 ∧ (26 ≤ sf lf a k i → i + 2 ≤ k) := by
  have h1 := ha i hi
  unfold sf
  rcases gl_in a k i with q | ⟨q1, q2, q3⟩
  · rw [if_neg (fun z => z.1 q)]; omega
  · split <;> omega
