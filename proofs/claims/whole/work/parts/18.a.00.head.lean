/-! ===== the reference's store in the class's words ===== -/
def stF (S : Nat → Int32) (F G : Nat → Nat → Int32) : Nat → Int32 := fun q9 => if q9 < 290 then S q9 else if q9 < 2030 then F (q9 / 290 - 1) (q9 % 290) else G (q9 / 290 - 7) (q9 % 290)
def qF (pn : Nat → Nat → Int32) (j : Nat) : Nat → Int32 := fun q9 => pn q9 j
/-- a store as it may be: no number below 0, none behind the 290 -/
def Gd (f : Nat → Int32) : Prop := (∀ i, nn (f i)) ∧ ∀ i, 290 ≤ i → f i = 0
def tt (f : Nat → Int32) : Nat → Nat
  | 0 => 0
  | n + 1 => tt f n + sn (f n)
def tP (F : Nat → Nat → Int32) : Nat := tt (F 0) 290 + tt (F 1) 290 + tt (F 2) 290 + tt (F 3) 290 + tt (F 4) 290 + tt (F 5) 290
def tS (S : Nat → Int32) (F G : Nat → Nat → Int32) : Nat := tt S 290 + tP F + tP G
def GA (S : Nat → Int32) (F G : Nat → Nat → Int32) : Prop := Gd S ∧ (∀ k, Gd (F k)) ∧ (∀ k, Gd (G k)) ∧ tS S F G < 2 ^ 30
theorem tP_le {F : Nat → Nat → Int32} {k : Nat} (hk : k < 6) : tt (F k) 290 ≤ tP F := by
  rcases (show k = 0 ∨ k = 1 ∨ k = 2 ∨ k = 3 ∨ k = 4 ∨ k = 5 by omega) with rfl | rfl | rfl | rfl | rfl | rfl <;> unfold tP <;> omega
theorem tt_mono (f : Nat → Int32) : ∀ {m n : Nat}, m ≤ n → tt f m ≤ tt f n := by
  intro m n h
  induction n with
  | zero => rw [show m = 0 by omega]; exact Nat.le_refl _
  | succ n ih =>
    rcases Nat.lt_or_ge m (n + 1) with q | q
    · have := ih (by omega); show _ ≤ tt f n + _; omega
    · rw [show m = n + 1 by omega]; exact Nat.le_refl _
theorem tt_sg (f : Nat → Int32) (g : Nat) : ∀ j, tt f (g * 10 + j) = tt f (g * 10) + tt (sg f g) j
  | 0 => rfl
  | j + 1 => by
    show tt f (g * 10 + j) + sn (f (g * 10 + j)) = tt f (g * 10) + (tt (sg f g) j + sn (f (g * 10 + j)))
    rw [tt_sg f g j]; omega
theorem tt_sgle {f : Nat → Int32} {g : Nat} (hg : g < 29) : tt (sg f g) 10 ≤ tt f 290 := by
  have h1 := tt_sg f g 10
  have h2 := tt_mono f (show g * 10 + 10 ≤ 290 by omega)
  omega
theorem bx_nI {f : Nat → Int32} : ∀ n, (∀ i, i < n → nn (f i)) → bx_sum f n = nI (tt f n)
  | 0, _ => nI_0.symm
  | n + 1, h => by
    show bx_sum f n + f n = nI (tt f n + sn (f n))
    rw [bx_nI n (fun i hi => h i (by omega)), ← nI_add, ← nn_sn (h n (by omega))]
theorem csum_U (f : Nat → Int32) (g : Nat) : csum f g oU 10 = tt (sg f g) 10 := rfl
theorem csum_D (f : Nat → Int32) (g : Nat) : csum f g oD 10 = tt (sg f g) 10 := by
  simp only [csum, oD, tt, sg, Nat.reduceSub, Nat.sub_zero, Nat.sub_self]
  omega
theorem Gd_bx {f : Nat → Int32} (h : Gd f) (g : Nat) : bx_sum (sg f g) 10 = nI (tt (sg f g) 10) := bx_nI 10 (fun i _ => h.1 _)
theorem Gd_all {f : Nat → Int32} (h : Gd f) : bx_sum f 290 = nI (tt f 290) := bx_nI 290 (fun i _ => h.1 _)
theorem sh_S {S : Nat → Int32} {F G : Nat → Nat → Int32} (h : Gd S) : sh (stF S F G) 0 = S := by
  funext q
  simp only [sh, stF]
  by_cases hq : q < 290
  · rw [if_pos hq, if_pos (by omega), Nat.zero_add]
  · rw [if_neg hq, h.2 q (by omega)]
theorem sh_F {S : Nat → Int32} {F G : Nat → Nat → Int32} {k : Nat} (hk : k < 6) (h : Gd (F k)) : sh (stF S F G) (290 * (1 + k)) = F k := by
  funext q
  simp only [sh, stF]
  by_cases hq : q < 290
  · rw [if_pos hq, if_neg (by omega), if_pos (by omega), show (290 * (1 + k) + q) / 290 - 1 = k by omega, show (290 * (1 + k) + q) % 290 = q by omega]
  · rw [if_neg hq, h.2 q (by omega)]
theorem sh_G {S : Nat → Int32} {F G : Nat → Nat → Int32} {k : Nat} (hk : k < 6) (h : Gd (G k)) : sh (stF S F G) (290 * (7 + k)) = G k := by
  funext q
  simp only [sh, stF]
  by_cases hq : q < 290
  · rw [if_pos hq, if_neg (by omega), if_neg (by omega), show (290 * (7 + k) + q) / 290 - 7 = k by omega, show (290 * (7 + k) + q) % 290 = q by omega]
  · rw [if_neg hq, h.2 q (by omega)]
theorem stF_S {S : Nat → Int32} {F G : Nat → Nat → Int32} {i : Nat} (h : i < 290) : stF S F G i = S i := if_pos h
theorem stF_F {S : Nat → Int32} {F G : Nat → Nat → Int32} {k i : Nat} (hk : k < 6) (h : i < 290) : stF S F G (290 * (1 + k) + i) = F k i := by
  simp only [stF]
  rw [if_neg (by omega), if_pos (by omega), show (290 * (1 + k) + i) / 290 - 1 = k by omega, show (290 * (1 + k) + i) % 290 = i by omega]
theorem stF_G {S : Nat → Int32} {F G : Nat → Nat → Int32} {k i : Nat} (hk : k < 6) (h : i < 290) : stF S F G (290 * (7 + k) + i) = G k i := by
  simp only [stF]
  rw [if_neg (by omega), if_neg (by omega), show (290 * (7 + k) + i) / 290 - 7 = k by omega, show (290 * (7 + k) + i) % 290 = i by omega]
theorem st_uS {S : Nat → Int32} {F G : Nat → Nat → Int32} {i : Nat} {x : Int32} (h : i < 290) : upd (stF S F G) i x = stF (upd S i x) F G := by
  funext q
  simp only [upd, stF]
  by_cases hq : q = i
  · rw [if_pos hq, if_pos (by omega), if_pos hq]
  · rw [if_neg hq, if_neg hq]
theorem st_uF {S : Nat → Int32} {F G : Nat → Nat → Int32} {k i : Nat} {x : Int32} (hk : k < 6) (h : i < 290) : upd (stF S F G) (290 * (1 + k) + i) x = stF S (up F k (upd (F k) i x)) G := by
  funext q
  by_cases hq : q = 290 * (1 + k) + i
  · subst hq
    rw [stF_F hk h, up_s]
    simp [upd]
  · simp only [upd]
    rw [if_neg hq]
    simp only [stF]
    split
    · rfl
    · split
      · by_cases h2 : q / 290 - 1 = k
        · rw [h2, up_s]
          simp only [upd]
          rw [if_neg (by omega)]
        · rw [up_n _ _ _ h2]
      · rfl
theorem st_uG {S : Nat → Int32} {F G : Nat → Nat → Int32} {k i : Nat} {x : Int32} (hk : k < 6) (h : i < 290) : upd (stF S F G) (290 * (7 + k) + i) x = stF S F (up G k (upd (G k) i x)) := by
  funext q
  by_cases hq : q = 290 * (7 + k) + i
  · subst hq
    rw [stF_G hk h, up_s]
    simp [upd]
  · simp only [upd]
    rw [if_neg hq]
    simp only [stF]
    split
    · rfl
    · split
      · rfl
      · by_cases h2 : q / 290 - 7 = k
        · rw [h2, up_s]
          simp only [upd]
          rw [if_neg (by omega)]
        · rw [up_n _ _ _ h2]
theorem p2_SF {S a b : Nat → Int32} {F G : Nat → Nat → Int32} {k : Nat} (hk : k < 6) : put2 (stF S F G) 0 (290 * (1 + k)) a b = stF a (up F k b) G := by
  funext q
  simp only [put2, stF]
  by_cases h1 : q < 290
  · rw [if_pos (by omega), if_pos h1, Nat.sub_zero]
  · rw [if_neg (by omega), if_neg h1, if_neg h1]
    by_cases h2 : q / 290 - 1 = k
    · rw [if_pos (by omega), if_pos (by omega), h2, up_s, show q - 290 * (1 + k) = q % 290 by omega]
    · rw [if_neg (by omega), up_n _ _ _ h2]
theorem p2_FS {S a b : Nat → Int32} {F G : Nat → Nat → Int32} {k : Nat} (hk : k < 6) : put2 (stF S F G) (290 * (1 + k)) 0 a b = stF b (up F k a) G := by
  funext q
  simp only [put2, stF]
  by_cases h1 : q < 290
  · rw [if_neg (by omega), if_pos (by omega), if_pos h1, Nat.sub_zero]
  · by_cases h2 : q / 290 - 1 = k
    · rw [if_pos (show 290 * (1 + k) ≤ q ∧ q < 290 * (1 + k) + 290 by omega), if_neg h1, if_pos (show q < 2030 by omega), h2, up_s, show q - 290 * (1 + k) = q % 290 by omega]
    · rw [if_neg (show ¬ (290 * (1 + k) ≤ q ∧ q < 290 * (1 + k) + 290) by omega), if_neg (show ¬ (0 ≤ q ∧ q < 0 + 290) by omega), if_neg h1, if_neg h1, up_n _ _ _ h2]
theorem p2_FG {S a b : Nat → Int32} {F G : Nat → Nat → Int32} {k : Nat} (hk : k < 6) : put2 (stF S F G) (290 * (1 + k)) (290 * (7 + k)) a b = stF S (up F k a) (up G k b) := by
  funext q
  simp only [put2, stF]
  by_cases h1 : q < 290
  · rw [if_neg (by omega), if_neg (by omega), if_pos h1, if_pos h1]
  · rw [if_neg h1, if_neg h1]
    by_cases h3 : q < 2030
    · rw [if_pos h3, if_pos h3]
      by_cases h2 : q / 290 - 1 = k
      · rw [if_pos (by omega), h2, up_s, show q - 290 * (1 + k) = q % 290 by omega]
      · rw [if_neg (by omega), if_neg (by omega), up_n _ _ _ h2]
    · rw [if_neg h3, if_neg h3]
      by_cases h2 : q / 290 - 7 = k
      · rw [if_neg (by omega), if_pos (by omega), h2, up_s, show q - 290 * (7 + k) = q % 290 by omega]
      · rw [if_neg (by omega), if_neg (by omega), up_n _ _ _ h2]
theorem mn_c (x y : Int32) : mn x y = mn y x := by
  unfold mn
  by_cases h1 : y < x
  · rw [if_pos h1, if_neg (fun h => absurd (Int32.lt_of_lt_of_le h1 (Int32.le_of_lt h)) Int32.lt_irrefl)]
  · rw [if_neg h1]
    by_cases h2 : x < y
    · rw [if_pos h2]
    · rw [if_neg h2]
      exact Int32.le_antisymm (Int32.not_lt.mp h1) (Int32.not_lt.mp h2)
theorem qf_0 {pn : Nat → Nat → Int32} {k : Nat} {a b c d : Int32} : upd (qF pn 0) k a = qF (up pn k (q4 a b c d)) 0 := by
  funext q; simp only [upd, qF, up]; split <;> rfl
theorem qf_1 {pn : Nat → Nat → Int32} {k : Nat} {a b c d : Int32} : upd (qF pn 1) k b = qF (up pn k (q4 a b c d)) 1 := by
  funext q; simp only [upd, qF, up]; split <;> rfl
theorem qf_2 {pn : Nat → Nat → Int32} {k : Nat} {a b c d : Int32} : upd (qF pn 2) k c = qF (up pn k (q4 a b c d)) 2 := by
  funext q; simp only [upd, qF, up]; split <;> rfl
theorem qf_3 {pn : Nat → Nat → Int32} {k : Nat} {a b c d : Int32} : upd (qF pn 3) k d = qF (up pn k (q4 a b c d)) 3 := by
  funext q; simp only [upd, qF, up]; split <;> rfl
theorem qs_0 {pn : Nat → Nat → Int32} {k : Nat} {a b c d : Int32} (h : a = pn k 0) : qF pn 0 = qF (up pn k (q4 a b c d)) 0 := by
  funext q; simp only [qF, up]; split
  · rename_i h2; rw [h2]; exact h.symm
  · rfl
theorem qs_1 {pn : Nat → Nat → Int32} {k : Nat} {a b c d : Int32} (h : b = pn k 1) : qF pn 1 = qF (up pn k (q4 a b c d)) 1 := by
  funext q; simp only [qF, up]; split
  · rename_i h2; rw [h2]; exact h.symm
  · rfl
theorem qs_2 {pn : Nat → Nat → Int32} {k : Nat} {a b c d : Int32} (h : c = pn k 2) : qF pn 2 = qF (up pn k (q4 a b c d)) 2 := by
  funext q; simp only [qF, up]; split
  · rename_i h2; rw [h2]; exact h.symm
  · rfl
theorem qs_3 {pn : Nat → Nat → Int32} {k : Nat} {a b c d : Int32} (h : d = pn k 3) : qF pn 3 = qF (up pn k (q4 a b c d)) 3 := by
  funext q; simp only [qF, up]; split
  · rename_i h2; rw [h2]; exact h.symm
  · rfl
theorem mf_t {f : Nat → Int32} {w n : Nat} (h : n % 10 < w) : mf f w n = mf f w (n + 1) := by rw [mf, if_pos h]
theorem mf_n {f : Nat → Int32} {w n : Nat} (h : ¬ n % 10 < w) : mf f w n + f n * (if n / 10 < 26 then nI 1 else nI 2) = mf f w (n + 1) := by rw [mf, if_neg h]
theorem cf_t {f : Nat → Int32} {w n : Nat} (h : n % 10 < w) : cf f w n = cf f w (n + 1) := by rw [cf, if_pos h]
theorem cf_n {f : Nat → Int32} {w n : Nat} (h : ¬ n % 10 < w) : cf f w n + f n = cf f w (n + 1) := by rw [cf, if_neg h]
theorem df_t {f : Nat → Int32} {w n : Nat} (h : n % 10 < w) : df f w n = df f w (n + 1) := by
  funext k
  simp only [df]
  by_cases h1 : k < n ∧ ¬ k % 10 < w
  · rw [if_pos h1, if_pos (by omega)]
  · rw [if_neg h1, if_neg (fun h2 => (Nat.lt_or_ge k n).elim (fun q => h1 ⟨q, h2.2⟩) (fun q => h2.2 (by rw [show k = n by omega]; exact h)))]
theorem df_n {f : Nat → Int32} {w n : Nat} (h : ¬ n % 10 < w) : upd (df f w n) n (nI 0) = df f w (n + 1) := by
  funext k
  simp only [df, upd]
  by_cases h0 : k = n
  · rw [if_pos h0, if_pos (by subst h0; exact ⟨by omega, h⟩), nI_0]
  · rw [if_neg h0]
    by_cases h1 : k < n ∧ ¬ k % 10 < w
    · rw [if_pos h1, if_pos (by omega)]
    · rw [if_neg h1, if_neg (by omega)]
theorem pr3_1 (g : Nat) : pr3 g - nI 1 = if g < 26 then nI 1 else nI 2 := by
  unfold pr3
  by_cases h : 26 ≤ g
  · rw [if_pos h, if_neg (by omega)]; decide
  · rw [if_neg h, if_pos (by omega)]; decide
theorem isM_sn {x : Int32} (h : isM x) : 1 ≤ sn x ∧ sn x ≤ 200 ∧ x = nI (sn x) := inR_sn (a := 1) (b := 200) h (by omega) (by omega)
/-- enough is there -/
theorem mv_su {f : Nat → Int32} {x : Int32} {g : Nat} (h : Gd f) (hb : tt f 290 < 2 ^ 31) (hg : g < 29) (hx : x = nI (sn x)) (hle : x ≤ bx_sum (sg f g) 10) : sn x ≤ tt (sg f g) 10 := by
  rw [Gd_bx h, hx] at hle
  have := tt_sgle (f := f) hg
  exact (nI_leI (sn_lt x) (by omega)).mp hle
theorem zge0 {x : Int32} : nI 0 ≤ x ↔ ¬ x < 0 := by rw [nI_0]; exact Int32.not_lt.symm
