/-! ===== printing, counting, saving ===== -/
def prT (m i : Nat) (s : Int32 × (Nat → Int32)) : Int32 × (Nat → Int32) := if i % 10 + m ≤ 9 then (s.1, upd (upd s.2 i (nI 0)) (i + m) (upd s.2 i (nI 0) (i + m) + s.2 i)) else (s.1 + s.2 i, upd s.2 i (nI 0))
def prS (m : Nat) (f : Nat → Int32) : Nat → Int32 × (Nat → Int32)
  | 0 => (nI 0, f)
  | j + 1 => prT m (290 - 1 - j) (prS m f j)
def prX (m : Nat) (f : Nat → Int32) : Int32 × (Nat → Int32) := if m = 0 then (nI 0, f) else prS m f 290
theorem pr_at {S : Nat → Int32} {F G : Nat → Nat → Int32} {k i : Nat} {f : Nat → Int32} (hk : k < 6) (hi : i < 290) : stF S F (up G k f) (290 * (7 + k) + i) = f i := by rw [stF_G hk hi, up_s]
theorem pr_u {S : Nat → Int32} {F G : Nat → Nat → Int32} {k i : Nat} {f : Nat → Int32} {x : Int32} (hk : k < 6) (hi : i < 290) : upd (stF S F (up G k f)) (290 * (7 + k) + i) x = stF S F (up G k (upd f i x)) := by rw [st_uG hk hi, up_s, up_up]
theorem pr_K {S : Nat → Int32} {F G K : Nat → Nat → Int32} {k m j : Nat} {f : Nat → Int32} {L : Nat → Int32} (hk : k < 6) (hj : j < 290) (hL : L = stF S F (up G k (prS m f j).2)) :
    L (290 * (7 + k) + (290 - 1 - j)) = (prS m f j).2 (290 - 1 - j) ∧ (¬ (290 - 1 - j) % 10 + m ≤ 9 → (prS m f (j + 1)).1 = (prS m f j).1 + (prS m f j).2 (290 - 1 - j) ∧ upd L (290 * (7 + k) + (290 - 1 - j)) (nI 0) = stF S F (up G k (prS m f (j + 1)).2)) ∧
    ((290 - 1 - j) % 10 + m ≤ 9 → (prS m f (j + 1)).1 = (prS m f j).1 ∧ upd (upd L (290 * (7 + k) + (290 - 1 - j)) (nI 0)) (290 * (7 + k) + (290 - 1 - j) + m) (upd L (290 * (7 + k) + (290 - 1 - j)) (nI 0) (290 * (7 + k) + (290 - 1 - j) + m) + (prS m f j).2 (290 - 1 - j)) = stF S F (up G k (prS m f (j + 1)).2)) := by
  subst hL
  refine ⟨pr_at hk (by omega), fun h => ?_, fun h => ?_⟩
  · have e : prS m f (j + 1) = ((prS m f j).1 + (prS m f j).2 (290 - 1 - j), upd (prS m f j).2 (290 - 1 - j) (nI 0)) := by
      show prT m (290 - 1 - j) (prS m f j) = _
      rw [prT, if_neg h]
    rw [e]
    exact ⟨rfl, pr_u hk (by omega)⟩
  · have e : prS m f (j + 1) = ((prS m f j).1, upd (upd (prS m f j).2 (290 - 1 - j) (nI 0)) (290 - 1 - j + m) (upd (prS m f j).2 (290 - 1 - j) (nI 0) (290 - 1 - j + m) + (prS m f j).2 (290 - 1 - j))) := by
      show prT m (290 - 1 - j) (prS m f j) = _
      rw [prT, if_pos h]
    rw [e]
    refine ⟨rfl, ?_⟩
    rw [pr_u hk (by omega), Nat.add_assoc, pr_at hk (by omega), pr_u hk (by omega)]
/-- setting over and over, a word at a time -/
def mt (a : Nat → Nat) (k : Nat) : Nat → Int32 → (Nat → Int32) → Int32
  | 0, x, _ => x
  | n + 1, x, lf => if (ly0 a k lf).1 = -1 then x else mt a k n (x + nI 1) (ly0 a k lf).2.1
theorem mt_no {a : Nat → Nat} {k n : Nat} {x : Int32} {lf : Nat → Int32} (h : (ly0 a k lf).1 = -1) : mt a k n x lf = x := by
  cases n with
  | zero => rfl
  | succ n => rw [mt, if_pos h]
theorem mt_s {a : Nat → Nat} {k n : Nat} {x : Int32} {lf : Nat → Int32} (h : ¬ (ly0 a k lf).1 = -1) : mt a k (n + 1) x lf = mt a k n (x + nI 1) (ly0 a k lf).2.1 := by rw [mt, if_neg h]
/-- laying out takes a sort at least -/
theorem ly_tot {a : Nat → Nat} {k : Nat} (ha : ∀ j, j < k → a j < 26) : ∀ (n i x : Nat) (lf tk : Nat → Int32), (∀ q, q < 29 → nn (lf q)) → tt (ly a k n i x lf tk).2.1 29 ≤ tt lf 29 ∧ (i < k → 0 < n → ¬ (ly a k n i x lf tk).1 = -1 → tt (ly a k n i x lf tk).2.1 29 < tt lf 29) := by
  intro n
  induction n with
  | zero => intro i x lf tk h; exact ⟨Nat.le_refl _, fun _ h0 => absurd h0 (Nat.lt_irrefl 0)⟩
  | succ n ih =>
    intro i x lf tk h
    by_cases hi : i < k
    · by_cases h1 : lf (sf lf a k i) < nI 1
      · rw [ly, if_pos hi, if_pos h1]; exact ⟨Nat.le_refl _, fun _ _ h2 => absurd rfl h2⟩
      · rw [ly, if_pos hi, if_neg h1]
        have hs := (sf_in (lf := lf) ha hi).1
        obtain ⟨e1, e2⟩ := nn_1 (h _ hs) h1
        have t := tt_upd lf (lf (sf lf a k i) - nI 1) hs
        have l := sn_lt (lf (sf lf a k i))
        have e3 : sn (lf (sf lf a k i) - nI 1) = sn (lf (sf lf a k i)) - 1 := by rw [e1, sn_nI (by omega)]
        rw [e3] at t
        have := (ih (if 26 ≤ sf lf a k i then i + 2 else i + 1) (x + 1) (upd lf (sf lf a k i) (lf (sf lf a k i) - nI 1)) (upd tk (sf lf a k i) (tk (sf lf a k i) + nI 1)) (nn_dec h hs h1)).1
        refine ⟨by omega, fun _ _ _ => by omega⟩
    · rw [ly, if_neg hi]; exact ⟨Nat.le_refl _, fun h2 => absurd h2 hi⟩
theorem ly0_tot {a : Nat → Nat} {k : Nat} (hk : 1 ≤ k) (ha : ∀ j, j < k → a j < 26) {lf : Nat → Int32} (h : ∀ q, q < 29 → nn (lf q)) (h2 : ¬ (ly0 a k lf).1 = -1) : tt (ly0 a k lf).2.1 29 < tt lf 29 := (ly_tot ha 6 0 0 lf (fun _ => 0) h).2 (by omega) (by omega) h2
theorem hob_t {a : Nat → Nat} {g i : Nat} (X : Int32) (h : a i = g) : nI (ho a g i) - X + nI 1 = nI (ho a g (i + 1)) - X := by
  rw [← ho_t h, ← nI_add, Int32.sub_eq_add_neg, Int32.sub_eq_add_neg, Int32.add_assoc, Int32.add_assoc, Int32.add_comm (-X)]
theorem hob_f {a : Nat → Nat} {g i : Nat} (X : Int32) (h : ¬ a i = g) : nI (ho a g i) - X + nI 0 = nI (ho a g (i + 1)) - X := by
  rw [← ho_f h, nI_0, Int32.add_zero]
/-- which ligature saves the most, by the numbers -/
def svP (Q : Nat → Int32) : Nat → Int32 × Int32
  | 0 => (-1, nI 0)
  | j + 1 => if Q (26 + j) ≤ (svP Q j).2 then svP Q j else (nI (26 + j), Q (26 + j))
theorem svP_t {Q : Nat → Int32} {j : Nat} (h : Q (26 + j) ≤ (svP Q j).2) : svP Q (j + 1) = svP Q j := by rw [svP, if_pos h]
theorem svP_f {Q : Nat → Int32} {j : Nat} (h : ¬ Q (26 + j) ≤ (svP Q j).2) : svP Q (j + 1) = (nI (26 + j), Q (26 + j)) := by rw [svP, if_neg h]
theorem svP_in (Q : Nat → Int32) : ∀ j, j ≤ 3 → ((svP Q j).1 = -1 ∧ (svP Q j).2 = nI 0) ∨ ((svP Q j).1 = nI (sn (svP Q j).1) ∧ 26 ≤ sn (svP Q j).1 ∧ sn (svP Q j).1 < 29 ∧ (svP Q j).2 = Q (sn (svP Q j).1))
  | 0, _ => Or.inl ⟨rfl, rfl⟩
  | j + 1, h => by
    by_cases q : Q (26 + j) ≤ (svP Q j).2
    · rw [svP_t q]; exact svP_in Q j (by omega)
    · rw [svP_f q]
      refine Or.inr ?_
      show nI (26 + j) = nI (sn (nI (26 + j))) ∧ 26 ≤ sn (nI (26 + j)) ∧ sn (nI (26 + j)) < 29 ∧ Q (26 + j) = Q (sn (nI (26 + j)))
      rw [sn_nI (by omega)]
      exact ⟨rfl, by omega, by omega, rfl⟩
theorem dg_d2 (d : Int64) (S : Nat → Int32) (F G : Nat → Nat → Int32) : ∀ j, j ≤ 6 → dg d (stF S F G) (290 * (1 + j)) = d2S (dg d S 290) F j := by
  have add : ∀ (f : Nat → Int32) (n : Nat) (g : Nat → Int32) (m : Nat), (∀ i, i < m → f (n + i) = g i) → dg d f (n + m) = dg (dg d f n) g m := by
    intro f n g m
    induction m with
    | zero => intro _; rfl
    | succ m ih =>
      intro h
      show dg d f (n + m) * 31 + (f (n + m)).toInt64 = dg (dg d f n) g m * 31 + (g m).toInt64
      rw [ih (fun i hi => h i (by omega)), h m (by omega)]
  intro j
  induction j with
  | zero =>
    intro _
    have := add (stF S F G) 0 S 290 (fun i hi => by rw [Nat.zero_add]; exact stF_S hi)
    rw [Nat.zero_add] at this
    exact this
  | succ j ih =>
    intro hj
    rw [show 290 * (1 + (j + 1)) = 290 * (1 + j) + 290 by omega, add (stF S F G) (290 * (1 + j)) (F j) 290 (fun i hi => stF_F (by omega) hi), ih (by omega)]
    rfl
