/-! ===== wearing: sign by sign, and number by number ===== -/
def cl (m : Nat) (f : Nat → Int32) (n : Nat) : Nat → Int32 := fun i => if n ≤ i ∧ i < 290 then (if m ≤ i % 10 ∧ n + m ≤ i then f (i - m) else 0) else f i
def cw (m : Nat) (f : Nat → Int32) (g j : Nat) : Nat → Int32 := fun i => if i < g * 10 then (if m ≤ i % 10 then f (i - m) else 0) else if g * 10 + 10 - j ≤ i ∧ i < g * 10 + 10 then (if g * 10 + 10 - j + m ≤ i then f (i - m) else 0) else f i
def bk (m : Nat) (f : Nat → Int32) : Nat → Int32 := fun i => if i % 10 + m ≤ 9 then 0 else f i
theorem cl_s1 {m n : Nat} {f : Nat → Int32} (hm : 1 ≤ m) (hn : n < 290) (h9 : n % 10 + m ≤ 9) : upd (upd (cl m f (n + 1)) n (nI 0)) (n + m) (upd (cl m f (n + 1)) n (nI 0) (n + m) + f n) = cl m f n := by
  have e0 : upd (cl m f (n + 1)) n (nI 0) (n + m) = 0 := by
    simp only [upd, cl]
    rw [if_neg (by omega), if_pos (by omega), if_neg (by omega)]
  rw [e0, Int32.zero_add]
  funext i
  simp only [upd, cl]
  by_cases h1 : i = n + m
  · rw [if_pos h1, if_pos (by omega), if_pos (by omega), h1, Nat.add_sub_cancel]
  · rw [if_neg h1]
    by_cases h2 : i = n
    · rw [if_pos h2, if_pos (by omega), if_neg (by omega), nI_0]
    · rw [if_neg h2]
      by_cases h3 : n + 1 ≤ i ∧ i < 290
      · rw [if_pos h3, if_pos (show n ≤ i ∧ i < 290 by omega)]
        by_cases h4 : m ≤ i % 10 ∧ n + 1 + m ≤ i
        · rw [if_pos h4, if_pos (by omega)]
        · rw [if_neg h4, if_neg (by omega)]
      · rw [if_neg h3, if_neg (show ¬ (n ≤ i ∧ i < 290) by omega)]
theorem cl_s2 {m n : Nat} {f : Nat → Int32} (hm : 1 ≤ m) (hn : n < 290) (h9 : ¬ n % 10 + m ≤ 9) : upd (cl m f (n + 1)) n (nI 0) = cl m f n := by
  funext i
  simp only [upd, cl]
  by_cases h2 : i = n
  · rw [if_pos h2, if_pos (by omega), if_neg (by omega), nI_0]
  · rw [if_neg h2]
    by_cases h3 : n + 1 ≤ i ∧ i < 290
    · rw [if_pos h3, if_pos (show n ≤ i ∧ i < 290 by omega)]
      by_cases h4 : m ≤ i % 10 ∧ n + 1 + m ≤ i
      · rw [if_pos h4, if_pos (by omega)]
      · rw [if_neg h4, if_neg (by omega)]
    · rw [if_neg h3, if_neg (show ¬ (n ≤ i ∧ i < 290) by omega)]
theorem cl_at {m n : Nat} {f : Nat → Int32} : cl m f (n + 1) n = f n := by
  simp only [cl]
  rw [if_neg (by omega)]
theorem prS_cl {m : Nat} {f : Nat → Int32} (hm : 1 ≤ m) : ∀ j, j ≤ 290 → (prS m f j).2 = cl m f (290 - j) ∧ (prS m f j).1 + bx_sum (bk m f) (290 - j) = bx_sum (bk m f) 290 := by
  intro j
  induction j with
  | zero =>
    intro _
    refine ⟨?_, by show nI 0 + _ = _; rw [nI_0, Int32.zero_add]⟩
    funext i
    simp only [cl]
    rw [if_neg (by omega)]
    rfl
  | succ j ih =>
    intro hj
    obtain ⟨a, b⟩ := ih (by omega)
    obtain ⟨n, hn⟩ : ∃ n, 290 - j = n + 1 := ⟨289 - j, by omega⟩
    have e1 : 290 - 1 - j = n := by omega
    have e2 : 290 - (j + 1) = n := by omega
    rw [hn] at a b
    have e3 : prS m f (j + 1) = prT m n (prS m f j) := by rw [← e1]; rfl
    have e4 : bx_sum (bk m f) (n + 1) = bx_sum (bk m f) n + bk m f n := rfl
    rw [e2, e3]
    unfold prT
    rw [a, cl_at]
    by_cases h9 : n % 10 + m ≤ 9
    · rw [if_pos h9]
      refine ⟨cl_s1 hm (by omega) h9, ?_⟩
      show (prS m f j).1 + _ = _
      rw [← b, e4, show bk m f n = 0 from if_pos h9, Int32.add_zero]
    · rw [if_neg h9]
      refine ⟨cl_s2 hm (by omega) h9, ?_⟩
      show (prS m f j).1 + f n + _ = _
      rw [← b, e4, show bk m f n = f n from if_neg h9, Int32.add_assoc, Int32.add_comm (f n)]
theorem cw_at {m g j : Nat} {f : Nat → Int32} (hj : j < 10) : cw m f g j (g * 10 + (9 - j)) = f (g * 10 + (9 - j)) := by
  simp only [cw]
  rw [if_neg (by omega), if_neg (by omega)]
theorem cw_s1 {m g j : Nat} {f : Nat → Int32} (hm : 1 ≤ m) (hj : j < 10) (h9 : 9 - j + m < 10) : upd (upd (cw m f g j) (g * 10 + (9 - j)) 0) (g * 10 + (9 - j + m)) (upd (cw m f g j) (g * 10 + (9 - j)) 0 (g * 10 + (9 - j + m)) + f (g * 10 + (9 - j))) = cw m f g (j + 1) := by
  have e0 : upd (cw m f g j) (g * 10 + (9 - j)) 0 (g * 10 + (9 - j + m)) = 0 := by
    simp only [upd, cw]
    rw [if_neg (by omega), if_neg (by omega), if_pos (by omega), if_neg (by omega)]
  rw [e0, Int32.zero_add]
  funext i
  simp only [upd, cw]
  by_cases h1 : i = g * 10 + (9 - j + m)
  · rw [if_pos h1, if_neg (by omega), if_pos (by omega), if_pos (by omega), h1, show g * 10 + (9 - j + m) - m = g * 10 + (9 - j) by omega]
  · rw [if_neg h1]
    by_cases h2 : i = g * 10 + (9 - j)
    · rw [if_pos h2, if_neg (by omega), if_pos (by omega), if_neg (by omega)]
    · rw [if_neg h2]
      by_cases h5 : i < g * 10
      · rw [if_pos h5, if_pos h5]
      · rw [if_neg h5, if_neg h5]
        by_cases h3 : g * 10 + 10 - j ≤ i ∧ i < g * 10 + 10
        · rw [if_pos h3, if_pos (show g * 10 + 10 - (j + 1) ≤ i ∧ i < g * 10 + 10 by omega)]
          by_cases h4 : g * 10 + 10 - j + m ≤ i
          · rw [if_pos h4, if_pos (by omega)]
          · rw [if_neg h4, if_neg (by omega)]
        · rw [if_neg h3, if_neg (show ¬ (g * 10 + 10 - (j + 1) ≤ i ∧ i < g * 10 + 10) by omega)]
theorem cw_s2 {m g j : Nat} {f : Nat → Int32} (hm : 1 ≤ m) (hj : j < 10) (h9 : ¬ 9 - j + m < 10) : upd (cw m f g j) (g * 10 + (9 - j)) 0 = cw m f g (j + 1) := by
  funext i
  simp only [upd, cw]
  by_cases h2 : i = g * 10 + (9 - j)
  · rw [if_pos h2, if_neg (by omega), if_pos (by omega), if_neg (by omega)]
  · rw [if_neg h2]
    by_cases h5 : i < g * 10
    · rw [if_pos h5, if_pos h5]
    · rw [if_neg h5, if_neg h5]
      by_cases h3 : g * 10 + 10 - j ≤ i ∧ i < g * 10 + 10
      · rw [if_pos h3, if_pos (show g * 10 + 10 - (j + 1) ≤ i ∧ i < g * 10 + 10 by omega)]
        by_cases h4 : g * 10 + 10 - j + m ≤ i
        · rw [if_pos h4, if_pos (by omega)]
        · rw [if_neg h4, if_neg (by omega)]
      · rw [if_neg h3, if_neg (show ¬ (g * 10 + 10 - (j + 1) ≤ i ∧ i < g * 10 + 10) by omega)]
theorem cw_next {m g : Nat} {f : Nat → Int32} : cw m f g 10 = cw m f (g + 1) 0 := by
  funext i
  simp only [cw]
  by_cases h1 : i < g * 10
  · rw [if_pos h1, if_pos (show i < (g + 1) * 10 by omega)]
  · rw [if_neg h1]
    by_cases h2 : i < (g + 1) * 10
    · rw [if_pos (show g * 10 + 10 - 10 ≤ i ∧ i < g * 10 + 10 by omega), if_pos h2]
      by_cases h3 : m ≤ i % 10
      · rw [if_pos h3, if_pos (by omega)]
      · rw [if_neg h3, if_neg (by omega)]
    · rw [if_neg (show ¬ (g * 10 + 10 - 10 ≤ i ∧ i < g * 10 + 10) by omega), if_neg h2, if_neg (show ¬ ((g + 1) * 10 + 10 - 0 ≤ i ∧ i < (g + 1) * 10 + 10) by omega)]
theorem i_swap (a b c : Int32) : a + b + c = a + c + b := by rw [Int32.add_assoc, Int32.add_comm b, ← Int32.add_assoc]
theorem wbI_cw {m g : Nat} {f : Nat → Int32} {s : Int32 × (Nat → Int32)} (hm : 1 ≤ m) (h1 : s.2 = cw m f g 0) (h2 : s.1 = bx_sum (bk m f) (g * 10)) : ∀ j, j ≤ 10 → (wbI m g s j).2 = cw m f g j ∧ (wbI m g s j).1 + bx_sum (bk m f) (g * 10 + (10 - j)) = bx_sum (bk m f) (g * 10) + bx_sum (bk m f) (g * 10 + 10) := by
  intro j
  induction j with
  | zero => intro _; exact ⟨h1, by show s.1 + _ = _; rw [h2]⟩
  | succ j ih =>
    intro hj
    obtain ⟨a, b⟩ := ih (by omega)
    have e4 : bx_sum (bk m f) (g * 10 + (10 - j)) = bx_sum (bk m f) (g * 10 + (9 - j)) + bk m f (g * 10 + (9 - j)) := by rw [show g * 10 + (10 - j) = (g * 10 + (9 - j)) + 1 by omega]; rfl
    rw [wbI_s, show 10 - (j + 1) = 9 - j by omega]
    have hT : wbT g (9 - j) (wbI m g s j) = upd (cw m f g j) (g * 10 + (9 - j)) 0 := by
      unfold wbT
      rw [zaddneg, a]
    by_cases h9 : 9 - j + m < 10
    · rw [wbU_t h9, hT, a, cw_at (by omega)]
      refine ⟨cw_s1 hm (by omega) h9, ?_⟩
      show (wbI m g s j).1 + _ = _
      rw [← b, e4, show bk m f (g * 10 + (9 - j)) = 0 from if_pos (by omega), Int32.add_zero]
    · rw [wbU_f h9, hT, a, cw_at (by omega)]
      refine ⟨cw_s2 hm (by omega) h9, ?_⟩
      show (wbI m g s j).1 + f (g * 10 + (9 - j)) + _ = _
      rw [← b, e4, show bk m f (g * 10 + (9 - j)) = f (g * 10 + (9 - j)) from if_neg (by omega), Int32.add_assoc, Int32.add_comm (f (g * 10 + (9 - j)))]
theorem wbO_cw {m : Nat} {f : Nat → Int32} (hm : 1 ≤ m) : ∀ g, (wbO m f g).2 = cw m f g 0 ∧ (wbO m f g).1 = bx_sum (bk m f) (g * 10)
  | 0 => by
    refine ⟨?_, rfl⟩
    funext i
    simp only [cw]
    rw [if_neg (by omega), if_neg (by omega)]
    rfl
  | g + 1 => by
    obtain ⟨a, b⟩ := wbO_cw hm g
    obtain ⟨c, d⟩ := wbI_cw hm a b 10 (Nat.le_refl _)
    rw [wbO_s]
    refine ⟨c.trans cw_next, ?_⟩
    rw [show g * 10 + (10 - 10) = g * 10 by omega, Int32.add_comm] at d
    have := congrArg (fun x => x - bx_sum (bk m f) (g * 10)) d
    rw [Int32.add_comm, Int32.add_sub_cancel, Int32.add_comm, Int32.add_sub_cancel] at this
    rw [this, show g * 10 + 10 = (g + 1) * 10 by omega]
theorem wb0 {f : Nat → Int32} : ∀ g, wbO 0 f g = (0, f)
  | 0 => rfl
  | g + 1 => by
    have key : ∀ j, j ≤ 10 → wbI 0 g (wbO 0 f g) j = (0, f) := by
      intro j
      induction j with
      | zero => intro _; exact wb0 g
      | succ j ih =>
        intro hj
        rw [wbI_s, ih (by omega), wbU_t (by omega)]
        refine Prod.ext rfl ?_
        funext i
        simp only [wbT, upd, Nat.add_zero]
        by_cases q : i = g * 10 + (9 - j)
        · rw [if_pos q, if_pos trivial, zaddneg, Int32.zero_add, q]
        · rw [if_neg q, if_neg q]
    rw [wbO_s]
    exact key 10 (Nat.le_refl _)
theorem prX_wb (m : Nat) (f : Nat → Int32) : prX m f = wbO m f 29 := by
  unfold prX
  by_cases h : m = 0
  · rw [if_pos h, h, wb0, nI_0]
  · rw [if_neg h]
    obtain ⟨a, b⟩ := prS_cl (f := f) (show 1 ≤ m by omega) 290 (Nat.le_refl _)
    obtain ⟨c, d⟩ := wbO_cw (f := f) (show 1 ≤ m by omega) 29
    refine Prod.ext ?_ ?_
    · rw [d, show 29 * 10 = 290 by omega, ← b]
      show _ = _ + (0 : Int32)
      rw [Int32.add_zero]
    · rw [a, c]
      funext i
      simp only [cl, cw]
      by_cases h1 : i < 290
      · rw [if_pos (show 290 - 290 ≤ i ∧ i < 290 by omega), if_pos (show i < 29 * 10 by omega)]
        by_cases h2 : m ≤ i % 10
        · rw [if_pos (show m ≤ i % 10 ∧ 290 - 290 + m ≤ i by omega), if_pos h2]
        · rw [if_neg (show ¬ (m ≤ i % 10 ∧ 290 - 290 + m ≤ i) by omega), if_neg h2]
      · rw [if_neg (show ¬ (290 - 290 ≤ i ∧ i < 290) by omega), if_neg (show ¬ i < 29 * 10 by omega), if_neg (show ¬ (29 * 10 + 10 - 0 ≤ i ∧ i < 29 * 10 + 10) by omega)]
theorem gi_print {n np m : Nat} {S q : Nat → Int32} {F G pn : Nat → Nat → Int32} {pv : Int32} {X Y : Prop} (h : GI n S F G np pn) (hn : n ≤ 512) (hnp : np ≤ 6) (hz : 0 = cdx (¬ isP pv np) X Y) :
    GI (n + 1) S (up F (sn pv) (F (sn pv))) (up G (sn pv) (wbO m (G (sn pv)) 29).2) np (up pn (sn pv) q) := by
  have hP := (nne (cdx_0e hz).1).1
  have bd := gi_bd h hP hnp hn
  obtain ⟨a, b⟩ := prX_inv (m := m) (h.2.2.1 (sn pv)) (by omega)
  rw [prX_wb] at a b
  exact gi_upd h hP hnp h.1 (h.2.1 _) a (by omega)
