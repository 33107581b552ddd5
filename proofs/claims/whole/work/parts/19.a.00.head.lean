/-! ===== moves keep the numbers ===== -/
theorem tt_upd (f : Nat → Int32) (x : Int32) {i : Nat} : ∀ {n : Nat}, i < n → tt (upd f i x) n + sn (f i) = tt f n + sn x := by
  intro n
  induction n with
  | zero => intro h; omega
  | succ n ih =>
    intro h
    show tt (upd f i x) n + sn (upd f i x n) + sn (f i) = tt f n + sn (f n) + sn x
    by_cases q : i = n
    · subst q
      have e : ∀ m, m ≤ i → tt (upd f i x) m = tt f m := by
        intro m
        induction m with
        | zero => intro _; rfl
        | succ m ihm =>
          intro hm
          show tt (upd f i x) m + sn (upd f i x m) = tt f m + sn (f m)
          rw [ihm (by omega)]
          simp only [upd]
          rw [if_neg (by omega)]
      rw [e i (Nat.le_refl _)]
      simp only [upd]
      rw [if_pos trivial]
      omega
    · have := ih (by omega)
      simp only [upd] at this ⊢
      rw [if_neg (by omega : ¬ n = i)]
      omega
theorem sn_le_tt (f : Nat → Int32) {i n : Nat} (h : i < n) : sn (f i) ≤ tt f n := by
  have := tt_mono f (show i + 1 ≤ n by omega)
  have e : tt f (i + 1) = tt f i + sn (f i) := rfl
  omega
theorem Gd_upd {f : Nat → Int32} {i : Nat} {x : Int32} (h : Gd f) (hi : i < 290) (hx : nn x) : Gd (upd f i x) := by
  refine ⟨fun k => ?_, fun k hk => ?_⟩
  · simp only [upd]
    split
    · exact hx
    · exact h.1 k
  · simp only [upd]
    rw [if_neg (by omega)]
    exact h.2 k hk
theorem nI_neg {a b : Nat} (h : b ≤ a) : nI a + -nI b = nI (a - b) := by rw [← Int32.sub_eq_add_neg, pk_sub h]
theorem mvT_inv {g o : Nat} {s : Int32 × Int32 × (Nat → Int32) × (Nat → Int32)} (ho : o < 10) (hg : g < 29) (h0 : nn s.1) (h1 : Gd s.2.2.1) (h2 : Gd s.2.2.2) (hb : tt s.2.2.1 290 + tt s.2.2.2 290 < 2 ^ 31) :
    nn (mvT g o s).1 ∧ Gd (mvT g o s).2.2.1 ∧ Gd (mvT g o s).2.2.2 ∧ tt (mvT g o s).2.2.1 290 + tt (mvT g o s).2.2.2 290 = tt s.2.2.1 290 + tt s.2.2.2 290 := by
  have hi : g * 10 + o < 290 := by omega
  have e0 := nn_sn h0
  have e1 := nn_sn (h1.1 (g * 10 + o))
  have e2 := nn_sn (h2.1 (g * 10 + o))
  have a1 := sn_le_tt s.2.2.1 hi
  have a2 := sn_le_tt s.2.2.2 hi
  have em : mn s.1 (s.2.2.1 (g * 10 + o)) = nI (min (sn s.1) (sn (s.2.2.1 (g * 10 + o)))) := by
    conv => lhs; rw [e0, e1]
    exact mn_nI (sn_lt _) (sn_lt _)
  have f0 : s.1 - mn s.1 (s.2.2.1 (g * 10 + o)) = nI (sn s.1 - min (sn s.1) (sn (s.2.2.1 (g * 10 + o)))) := by
    rw [em]
    conv => lhs; lhs; rw [e0]
    exact pk_sub (Nat.min_le_left _ _)
  have f1 : s.2.2.1 (g * 10 + o) + -mn s.1 (s.2.2.1 (g * 10 + o)) = nI (sn (s.2.2.1 (g * 10 + o)) - min (sn s.1) (sn (s.2.2.1 (g * 10 + o)))) := by
    rw [em]
    conv => lhs; lhs; rw [e1]
    exact nI_neg (Nat.min_le_right _ _)
  have f2 : s.2.2.2 (g * 10 + o) + mn s.1 (s.2.2.1 (g * 10 + o)) = nI (sn (s.2.2.2 (g * 10 + o)) + min (sn s.1) (sn (s.2.2.1 (g * 10 + o)))) := by
    rw [em]
    conv => lhs; lhs; rw [e2]
    exact nI_add _ _
  have l0 := sn_lt s.1
  have t1 := tt_upd s.2.2.1 (s.2.2.1 (g * 10 + o) + -mn s.1 (s.2.2.1 (g * 10 + o))) hi
  have t2 := tt_upd s.2.2.2 (s.2.2.2 (g * 10 + o) + mn s.1 (s.2.2.1 (g * 10 + o))) hi
  have g1 : sn (s.2.2.1 (g * 10 + o) + -mn s.1 (s.2.2.1 (g * 10 + o))) = sn (s.2.2.1 (g * 10 + o)) - min (sn s.1) (sn (s.2.2.1 (g * 10 + o))) := by rw [f1, sn_nI (by omega)]
  have g2 : sn (s.2.2.2 (g * 10 + o) + mn s.1 (s.2.2.1 (g * 10 + o))) = sn (s.2.2.2 (g * 10 + o)) + min (sn s.1) (sn (s.2.2.1 (g * 10 + o))) := by rw [f2, sn_nI (by omega)]
  rw [g1] at t1
  rw [g2] at t2
  refine ⟨?_, Gd_upd h1 hi ?_, Gd_upd h2 hi ?_, ?_⟩
  · show nn (s.1 - mn s.1 (s.2.2.1 (g * 10 + o)))
    rw [f0]; exact nn_nI (by omega)
  · rw [f1]; exact nn_nI (by omega)
  · rw [f2]; exact nn_nI (by omega)
  · show tt (upd s.2.2.1 (g * 10 + o) (s.2.2.1 (g * 10 + o) + -mn s.1 (s.2.2.1 (g * 10 + o)))) 290 + tt (upd s.2.2.2 (g * 10 + o) (s.2.2.2 (g * 10 + o) + mn s.1 (s.2.2.1 (g * 10 + o)))) 290 = _
    omega
theorem mvS_inv {o : Nat → Nat} {g : Nat} {q : Int32} {f h : Nat → Int32} (ho : ∀ i, i < 10 → o i < 10) (hg : g < 29) (h0 : nn q) (h1 : Gd f) (h2 : Gd h) (hb : tt f 290 + tt h 290 < 2 ^ 31) : ∀ j, j ≤ 10 →
    nn (mvS o g q f h j).1 ∧ Gd (mvS o g q f h j).2.2.1 ∧ Gd (mvS o g q f h j).2.2.2 ∧ tt (mvS o g q f h j).2.2.1 290 + tt (mvS o g q f h j).2.2.2 290 = tt f 290 + tt h 290 := by
  intro j
  induction j with
  | zero => intro _; exact ⟨h0, h1, h2, rfl⟩
  | succ j ih =>
    intro hj
    obtain ⟨a, b, c, d⟩ := ih (by omega)
    obtain ⟨a2, b2, c2, d2⟩ := mvT_inv (ho j (by omega)) hg a b c (by omega)
    exact ⟨a2, b2, c2, d2.trans d⟩
theorem mvS_off {o : Nat → Nat} {g : Nat} {q : Int32} {f h : Nat → Int32} (ho : ∀ i, i < 10 → o i < 10) {k : Nat} (hk : k < g * 10 ∨ g * 10 + 10 ≤ k) : ∀ j, j ≤ 10 → (mvS o g q f h j).2.2.1 k = f k := by
  intro j
  induction j with
  | zero => intro _; rfl
  | succ j ih =>
    intro hj
    have := ho j (by omega)
    show upd (mvS o g q f h j).2.2.1 (g * 10 + o j) _ k = _
    simp only [upd]
    rw [if_neg (by omega)]
    exact ih (by omega)
theorem oU_lt : ∀ i, i < 10 → oU i < 10 := fun i h => h
theorem oD_lt : ∀ i, i < 10 → oD i < 10 := fun i _ => by unfold oD; omega
theorem lk_nn {f : Nat → Int32} (h : Gd f) (hb : tt f 290 < 2 ^ 31) : ∀ q, q < 29 → nn (lk f q) := fun q hq => by
  show nn (bx_sum (sg f q) 10)
  rw [Gd_bx h]
  have := tt_sgle (f := f) hq
  exact nn_nI (by omega)
theorem lk_sn {f : Nat → Int32} (h : Gd f) (hb : tt f 290 < 2 ^ 31) {q : Nat} (hq : q < 29) : sn (lk f q) = tt (sg f q) 10 := by
  show sn (bx_sum (sg f q) 10) = _
  rw [Gd_bx h]
  have := tt_sgle (f := f) hq
  exact sn_nI (by omega)
/-- laying out: what is taken and what is left -/
theorem ly_keep {a : Nat → Nat} {k : Nat} (hk : k ≤ 6) (ha : ∀ j, j < k → a j < 26) : ∀ (n i x : Nat) (lf tk : Nat → Int32), (∀ q, q < 29 → nn (lf q) ∧ nn (tk q) ∧ sn (lf q) + sn (tk q) < 2 ^ 31) →
    ∀ q, q < 29 → nn ((ly a k n i x lf tk).2.1 q) ∧ nn ((ly a k n i x lf tk).2.2 q) ∧ sn ((ly a k n i x lf tk).2.1 q) + sn ((ly a k n i x lf tk).2.2 q) = sn (lf q) + sn (tk q) := by
  intro n
  induction n with
  | zero => intro i x lf tk h q hq; exact ⟨(h q hq).1, (h q hq).2.1, rfl⟩
  | succ n ih =>
    intro i x lf tk h q hq
    by_cases hi : i < k
    · by_cases h1 : lf (sf lf a k i) < nI 1
      · rw [ly, if_pos hi, if_pos h1]; exact ⟨(h q hq).1, (h q hq).2.1, rfl⟩
      · rw [ly, if_pos hi, if_neg h1]
        have hs := (sf_in (lf := lf) ha hi).1
        obtain ⟨e1, e2⟩ := nn_1 (h _ hs).1 h1
        have e3 : tk (sf lf a k i) + nI 1 = nI (sn (tk (sf lf a k i)) + 1) := by
          conv => lhs; lhs; rw [nn_sn (h _ hs).2.1]
          exact nI_add _ _
        have hb := (h _ hs).2.2
        have key : ∀ q, q < 29 → nn (upd lf (sf lf a k i) (lf (sf lf a k i) - nI 1) q) ∧ nn (upd tk (sf lf a k i) (tk (sf lf a k i) + nI 1) q) ∧ sn (upd lf (sf lf a k i) (lf (sf lf a k i) - nI 1) q) + sn (upd tk (sf lf a k i) (tk (sf lf a k i) + nI 1) q) = sn (lf q) + sn (tk q) := by
          intro q hq
          simp only [upd]
          by_cases h2 : q = sf lf a k i
          · rw [if_pos h2, if_pos h2, e1, e3, sn_nI (by omega), sn_nI (by omega)]
            subst h2
            exact ⟨nn_nI (by omega), nn_nI (by omega), by omega⟩
          · rw [if_neg h2, if_neg h2]
            exact ⟨(h q hq).1, (h q hq).2.1, rfl⟩
        have h9 := ih (if 26 ≤ sf lf a k i then i + 2 else i + 1) (x + 1) _ _ (fun q hq => ⟨(key q hq).1, (key q hq).2.1, by rw [(key q hq).2.2]; exact (h q hq).2.2⟩) q hq
        exact ⟨h9.1, h9.2.1, h9.2.2.trans (key q hq).2.2⟩
    · rw [ly, if_neg hi]; exact ⟨(h q hq).1, (h q hq).2.1, rfl⟩
theorem ly0_keep {a : Nat → Nat} {k : Nat} (hk : k ≤ 6) (ha : ∀ j, j < k → a j < 26) {lf : Nat → Int32} (h : ∀ q, q < 29 → nn (lf q)) : ∀ q, q < 29 → nn ((ly0 a k lf).2.1 q) ∧ nn ((ly0 a k lf).2.2 q) ∧ sn ((ly0 a k lf).2.1 q) + sn ((ly0 a k lf).2.2 q) = sn (lf q) := fun q hq => by
  have z : sn (0 : Int32) = 0 := by decide
  have := ly_keep hk ha 6 0 0 lf (fun _ => 0) (fun q hq => ⟨h q hq, Int32.le_refl 0, by rw [z]; exact sn_lt _⟩) q hq
  rw [z] at this
  exact this
theorem isW_la {x : Int32} (h : isW x) : 1 ≤ wkk x ∧ wkk x ≤ 6 ∧ ∀ j, j < wkk x → wla x j < 26 := by
  have h1 := (isW_k h).1
  exact ⟨h1.1, h1.2.1, fun j _ => wl_lt⟩
/-- setting: the case and the form, sign by sign -/
theorem stS_inv {tk f g : Nat → Int32} (h1 : Gd f) (h2 : Gd g) (hb : tt f 290 + tt g 290 < 2 ^ 31) (ht : ∀ q, q < 29 → nn (tk q)) : ∀ j, j ≤ 29 →
    Gd (stS tk f g j).1 ∧ Gd (stS tk f g j).2 ∧ tt (stS tk f g j).1 290 + tt (stS tk f g j).2 290 = tt f 290 + tt g 290 ∧ ∀ k, j * 10 ≤ k → (stS tk f g j).1 k = f k := by
  intro j
  induction j with
  | zero => intro _; exact ⟨h1, h2, rfl, fun _ _ => rfl⟩
  | succ j ih =>
    intro hj
    obtain ⟨a, b, c, d⟩ := ih (by omega)
    obtain ⟨-, a2, b2, c2⟩ := mvS_inv (g := j) (q := tk j) oD_lt (by omega) (ht j (by omega)) a b (by omega) 10 (Nat.le_refl _)
    refine ⟨a2, b2, c2.trans c, fun k hk => ?_⟩
    show (mvS oD j (tk j) (stS tk f g j).1 (stS tk f g j).2 10).2.2.1 k = _
    rw [mvS_off oD_lt (by omega) 10 (Nat.le_refl _)]
    exact d k (by omega)
theorem tt_cong {f f' : Nat → Int32} : ∀ n, (∀ i, i < n → f i = f' i) → tt f n = tt f' n
  | 0, _ => rfl
  | n + 1, h => by
    show tt f n + sn (f n) = tt f' n + sn (f' n)
    rw [tt_cong n (fun i hi => h i (by omega)), h n (by omega)]
theorem up_up {α : Type} (f : Nat → α) (k : Nat) (x y : α) : up (up f k x) k y = up f k y := by
  funext i
  unfold up
  split <;> rfl
theorem csum_Uj (f : Nat → Int32) (g : Nat) : ∀ j, csum f g oU j = tt (sg f g) j
  | 0 => rfl
  | j + 1 => by
    show csum f g oU j + sn (f (g * 10 + j)) = tt (sg f g) j + sn (f (g * 10 + j))
    rw [csum_Uj f g j]
/-- all of a sign -/
theorem mv_all {f h : Nat → Int32} {g : Nat} (h1 : Gd f) (hg : g < 29) (hb : tt f 290 < 2 ^ 31) : ∀ j, j ≤ 10 →
    (mvS oU g (bx_sum (sg f g) 10) f h j).2.2.1 = (fun i => if g * 10 ≤ i ∧ i < g * 10 + j then 0 else f i) ∧ (mvS oU g (bx_sum (sg f g) 10) f h j).2.2.2 = (fun i => if g * 10 ≤ i ∧ i < g * 10 + j then h i + f i else h i) := by
  intro j
  have hT := tt_sgle (f := f) hg
  rw [Gd_bx h1]
  induction j with
  | zero =>
    intro _
    refine ⟨?_, ?_⟩ <;> funext i
    · rw [if_neg (by omega)]; rfl
    · rw [if_neg (by omega)]; rfl
  | succ j ih =>
    intro hj
    obtain ⟨a, b⟩ := ih (by omega)
    have w := mvS_w (q := tt (sg f g) 10) (h := h) (f := f) (g := g) (by omega) oU_inj (fun j _ => h1.1 _) j (by omega)
    have hc : csum f g oU j + sn (f (g * 10 + j)) ≤ tt (sg f g) 10 := by
      rw [csum_Uj]
      exact tt_mono (sg f g) (show j + 1 ≤ 10 by omega)
    have em : mn (mvS oU g (nI (tt (sg f g) 10)) f h j).1 ((mvS oU g (nI (tt (sg f g) 10)) f h j).2.2.1 (g * 10 + j)) = f (g * 10 + j) := by
      have e9 := w.2 j (Nat.le_refl _) (by omega)
      simp only [oU] at e9
      rw [w.1, e9]
      conv => lhs; rw [nn_sn (h1.1 (g * 10 + j)), mn_nI (by omega) (sn_lt _), Nat.min_eq_right (by omega), ← nn_sn (h1.1 (g * 10 + j))]
    refine ⟨?_, ?_⟩
    · show upd (mvS oU g (nI (tt (sg f g) 10)) f h j).2.2.1 (g * 10 + j) ((mvS oU g (nI (tt (sg f g) 10)) f h j).2.2.1 (g * 10 + j) + -mn (mvS oU g (nI (tt (sg f g) 10)) f h j).1 ((mvS oU g (nI (tt (sg f g) 10)) f h j).2.2.1 (g * 10 + j))) = _
      rw [em, a]
      funext i
      simp only [upd]
      by_cases q : i = g * 10 + j
      · rw [if_pos q, if_neg (by omega), if_pos (by omega), zaddneg]
      · rw [if_neg q]
        by_cases q2 : g * 10 ≤ i ∧ i < g * 10 + j
        · rw [if_pos q2, if_pos (by omega)]
        · rw [if_neg q2, if_neg (by omega)]
    · show upd (mvS oU g (nI (tt (sg f g) 10)) f h j).2.2.2 (g * 10 + j) ((mvS oU g (nI (tt (sg f g) 10)) f h j).2.2.2 (g * 10 + j) + mn (mvS oU g (nI (tt (sg f g) 10)) f h j).1 ((mvS oU g (nI (tt (sg f g) 10)) f h j).2.2.1 (g * 10 + j))) = _
      rw [em, b]
      funext i
      simp only [upd]
      by_cases q : i = g * 10 + j
      · rw [if_pos q, if_neg (by omega), if_pos (by omega), q]
      · rw [if_neg q]
        by_cases q2 : g * 10 ≤ i ∧ i < g * 10 + j
        · rw [if_pos q2, if_pos (by omega)]
        · rw [if_neg q2, if_neg (by omega)]
theorem diS_all {g f : Nat → Int32} (h1 : Gd g) (hb : tt g 290 < 2 ^ 31) : ∀ j, j ≤ 29 → (diS g f j).1 = (fun i => if i < j * 10 then 0 else g i) ∧ (diS g f j).2 = (fun i => if i < j * 10 then f i + g i else f i) := by
  intro j
  induction j with
  | zero =>
    intro _
    refine ⟨?_, ?_⟩ <;> funext i
    · rw [if_neg (by omega)]; rfl
    · rw [if_neg (by omega)]; rfl
  | succ j ih =>
    intro hj
    obtain ⟨a, b⟩ := ih (by omega)
    have hd : Gd (diS g f j).1 := by
      rw [a]
      refine ⟨fun i => ?_, fun i hi => ?_⟩
      · show nn (if i < j * 10 then 0 else g i)
        split
        · exact Int32.le_refl 0
        · exact h1.1 i
      · show (if i < j * 10 then 0 else g i) = 0
        rw [if_neg (by omega)]; exact h1.2 i hi
    have hs : ∀ n, tt (diS g f j).1 n ≤ tt g n := by
      intro n
      induction n with
      | zero => exact Nat.le_refl _
      | succ n ihn =>
        have e : sn ((diS g f j).1 n) ≤ sn (g n) := by
          rw [a]
          show sn (if n < j * 10 then 0 else g n) ≤ _
          split
          · rw [show sn (0 : Int32) = 0 by decide]; exact Nat.zero_le _
          · exact Nat.le_refl _
        exact Nat.add_le_add ihn e
    obtain ⟨a2, b2⟩ := mv_all (f := (diS g f j).1) (h := (diS g f j).2) (g := j) hd (by omega) (by have := hs 290; omega) 10 (Nat.le_refl _)
    refine ⟨?_, ?_⟩
    · show (mvS oU j (bx_sum (sg (diS g f j).1 j) 10) (diS g f j).1 (diS g f j).2 10).2.2.1 = _
      rw [a2, a]
      funext i
      dsimp only
      by_cases q : i < j * 10
      · rw [if_neg (by omega), if_pos q, if_pos (by omega)]
      · by_cases q2 : i < (j + 1) * 10
        · rw [if_pos (by omega), if_pos q2]
        · rw [if_neg (by omega), if_neg q, if_neg q2]
    · show (mvS oU j (bx_sum (sg (diS g f j).1 j) 10) (diS g f j).1 (diS g f j).2 10).2.2.2 = _
      rw [b2, a, b]
      funext i
      dsimp only
      by_cases q : i < j * 10
      · rw [if_neg (by omega), if_pos q, if_pos (by omega)]
      · by_cases q2 : i < (j + 1) * 10
        · rw [if_pos (by omega), if_neg q, if_neg q, if_pos q2]
        · rw [if_neg (by omega), if_neg q, if_neg q2]
theorem diS_29 {g f : Nat → Int32} (h1 : Gd g) (h2 : Gd f) (hb : tt g 290 < 2 ^ 31) : (diS g f 29).1 = (fun i => if i < 290 then 0 else g i) ∧ (diS g f 29).2 = (fun i => if i < 290 then f i + g i else f i) := diS_all h1 hb 29 (Nat.le_refl _)
/-- putting back, number by number -/
def dS (S : Nat → Int32) (F G : Nat → Nat → Int32) (k j : Nat) : Nat → Int32 := stF S (up F k (fun i => if i < j then F k i + G k i else F k i)) (up G k (fun i => if i < j then 0 else G k i))
theorem dS_0 (S : Nat → Int32) (F G : Nat → Nat → Int32) (k : Nat) : stF S F G = dS S F G k 0 := by
  unfold dS
  have e1 : (fun i => if i < 0 then F k i + G k i else F k i) = F k := by funext i; rw [if_neg (by omega)]
  have e2 : (fun i => if i < 0 then 0 else G k i) = G k := by funext i; rw [if_neg (by omega)]
  rw [e1, e2, up_self, up_self]
theorem dS_s {S : Nat → Int32} {F G : Nat → Nat → Int32} {k j : Nat} (hk : k < 6) (hj : j < 290) : dS S F G k j (290 * (1 + k) + j) = F k j ∧ dS S F G k j (290 * (7 + k) + j) = G k j ∧
    upd (upd (dS S F G k j) (290 * (1 + k) + j) (F k j + G k j)) (290 * (7 + k) + j) (nI 0) = dS S F G k (j + 1) := by
  refine ⟨?_, ?_, ?_⟩
  · unfold dS
    rw [stF_F hk hj, up_s, if_neg (by omega)]
  · unfold dS
    rw [stF_G hk hj, up_s, if_neg (by omega)]
  · unfold dS
    rw [st_uF hk hj, st_uG hk hj, up_up, up_s, up_up, up_s]
    congr 1
    · congr 1
      funext i
      simp only [upd]
      by_cases q : i = j
      · rw [if_pos q, if_pos (by omega), q]
      · rw [if_neg q]
        by_cases q2 : i < j
        · rw [if_pos q2, if_pos (by omega)]
        · rw [if_neg q2, if_neg (by omega)]
    · congr 1
      funext i
      simp only [upd]
      by_cases q : i = j
      · rw [if_pos q, if_pos (by omega), nI_0]
      · rw [if_neg q]
        by_cases q2 : i < j
        · rw [if_pos q2, if_pos (by omega)]
        · rw [if_neg q2, if_neg (by omega)]
theorem dS_290 {S : Nat → Int32} {F G : Nat → Nat → Int32} {k : Nat} (h1 : Gd (G k)) (h2 : Gd (F k)) (hb : tt (G k) 290 < 2 ^ 31) : dS S F G k 290 = stF S (up F k (diS (G k) (F k) 29).2) (up G k (diS (G k) (F k) 29).1) := by
  rw [(diS_29 h1 h2 hb).1, (diS_29 h1 h2 hb).2]
  rfl
theorem rn9 (a : Int32) : a + nI 9 = a + nI 10 - nI 1 := by
  rw [Int32.sub_eq_add_neg, Int32.add_assoc]
  congr 1
theorem psS_q0 (dv : Int32) (F G pn : Nat → Nat → Int32) : ∀ n, qF pn 0 = qF (psS dv F G pn n).1 0
  | 0 => rfl
  | n + 1 => (psS_q0 dv F G pn n).trans (qs_0 rfl)
theorem psS_q2 (dv : Int32) (F G pn : Nat → Nat → Int32) : ∀ n, qF pn 2 = qF (psS dv F G pn n).1 2
  | 0 => rfl
  | n + 1 => (psS_q2 dv F G pn n).trans (qs_2 rfl)
theorem psS_q3 (dv : Int32) (F G pn : Nat → Nat → Int32) : ∀ n, qF pn 3 = qF (psS dv F G pn n).1 3
  | 0 => rfl
  | n + 1 => (psS_q3 dv F G pn n).trans (qs_3 rfl)
