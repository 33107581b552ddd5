/-! ===== setting words ===== -/
def fil (v f : Nat → Int32) (j : Nat) : Nat → Int32 := fun q9 => if q9 < j then v q9 else f q9
theorem fil_0 (v f : Nat → Int32) : f = fil v f 0 := by funext q; simp [fil]
theorem fil_s (v f : Nat → Int32) (j : Nat) : upd (fil v f j) j (v j) = fil v f (j + 1) := by
  funext q
  simp only [upd, fil]
  by_cases h : q = j
  · subst h; simp
  · rw [if_neg h]
    by_cases h2 : q < j
    · rw [if_pos h2, if_pos (by omega)]
    · rw [if_neg h2, if_neg (by omega)]
theorem fil_end {v f : Nat → Int32} {n : Nat} : ∀ q, q < n → fil v f n q = v q := fun q h => if_pos h
theorem fil_at {v f : Nat → Int32} {j : Nat} : fil v f j j = f j := if_neg (Nat.lt_irrefl j)
/-- what a store has of each sign -/
def lk (f : Nat → Int32) : Nat → Int32 := fun q9 => bx_sum (sg f q9) 10
/-- setting a word of the letters a, k of them, from the numbers lf: how many sorts (-1: it can't be set), the numbers left, the sorts taken -/
def ly (a : Nat → Nat) (k : Nat) : Nat → Nat → Nat → (Nat → Int32) → (Nat → Int32) → Int32 × (Nat → Int32) × (Nat → Int32)
  | 0, _, x, lf, tk => (nI x, lf, tk)
  | n + 1, i, x, lf, tk => if i < k then (if lf (sf lf a k i) < nI 1 then (-1, lf, tk) else ly a k n (if 26 ≤ sf lf a k i then i + 2 else i + 1) (x + 1) (upd lf (sf lf a k i) (lf (sf lf a k i) - nI 1)) (upd tk (sf lf a k i) (tk (sf lf a k i) + nI 1))) else (nI x, lf, tk)
theorem ly_end {a : Nat → Nat} {k n i x : Nat} {lf tk : Nat → Int32} (h : ¬ i < k) : ly a k n i x lf tk = (nI x, lf, tk) := by
  cases n with
  | zero => rfl
  | succ n => rw [ly, if_neg h]
theorem ly_no {a : Nat → Nat} {k n i x : Nat} {lf tk : Nat → Int32} (h : i < k) (hn : k - i ≤ n) (h1 : lf (sf lf a k i) < nI 1) : ly a k n i x lf tk = (-1, lf, tk) := by
  cases n with
  | zero => omega
  | succ n => rw [ly, if_pos h, if_pos h1]
theorem ly_1 {a : Nat → Nat} {k n i x : Nat} {lf tk : Nat → Int32} (h : i < k) (hn : k - i ≤ n) (h1 : ¬ lf (sf lf a k i) < nI 1) (h2 : sf lf a k i < 26) : ly a k n i x lf tk = ly a k (n - 1) (i + 1) (x + 1) (upd lf (sf lf a k i) (lf (sf lf a k i) - nI 1)) (upd tk (sf lf a k i) (tk (sf lf a k i) + nI 1)) := by
  cases n with
  | zero => omega
  | succ n => rw [ly, if_pos h, if_neg h1, if_neg (by omega)]; rfl
theorem ly_2 {a : Nat → Nat} {k n i x : Nat} {lf tk : Nat → Int32} (h : i < k) (hn : k - i ≤ n) (h1 : ¬ lf (sf lf a k i) < nI 1) (h2 : 26 ≤ sf lf a k i) : ly a k n i x lf tk = ly a k (n - 1) (i + 2) (x + 1) (upd lf (sf lf a k i) (lf (sf lf a k i) - nI 1)) (upd tk (sf lf a k i) (tk (sf lf a k i) + nI 1)) := by
  cases n with
  | zero => omega
  | succ n => rw [ly, if_pos h, if_neg h1, if_pos h2]; rfl
/-- setting from the start -/
def ly0 (a : Nat → Nat) (k : Nat) (lf : Nat → Int32) : Int32 × (Nat → Int32) × (Nat → Int32) := ly a k 6 0 0 lf (fun _ => 0)
/-- how often there is so much left -/
def ag (lf tk : Nat → Int32) : Nat → Int32
  | 0 => nI 2147483647
  | n + 1 => if 0 < tk n then mn (ag lf tk n) (lf n / tk n) else ag lf tk n
theorem ag_t {lf tk : Nat → Int32} {n : Nat} (h : ¬ tk n ≤ 0) : mn (ag lf tk n) (lf n / tk n) = ag lf tk (n + 1) := by rw [ag, if_pos (Int32.not_le.mp h)]
theorem ag_f {lf tk : Nat → Int32} {n : Nat} (h : tk n ≤ 0) : ag lf tk n = ag lf tk (n + 1) := by rw [ag, if_neg (Int32.not_lt.mpr h)]
def sa (lf tk : Nat → Int32) : Nat → Int32 := fun q9 => lf q9 - ag lf tk 29 * tk q9
/-- setting till a sort lacks, in at most so many rounds -/
def lt1 (a : Nat → Nat) (k : Nat) : Nat → Int32 → (Nat → Int32) → Int32
  | 0, x, _ => x
  | n + 1, x, lf => if (ly0 a k lf).1 < nI 1 then x else lt1 a k n (x + (nI 1 + ag (ly0 a k lf).2.1 (ly0 a k lf).2.2 29)) (sa (ly0 a k lf).2.1 (ly0 a k lf).2.2)
theorem lt1_no {a : Nat → Nat} {k n : Nat} {x : Int32} {lf : Nat → Int32} (h : ¬ nI 1 ≤ (ly0 a k lf).1) : lt1 a k n x lf = x := by
  cases n with
  | zero => rfl
  | succ n => rw [lt1, if_pos (Int32.not_le.mp h)]
theorem lt1_s {a : Nat → Nat} {k n : Nat} {x : Int32} {lf : Nat → Int32} (hn : 0 < n) (h : nI 1 ≤ (ly0 a k lf).1) : lt1 a k n x lf = lt1 a k (n - 1) (x + (nI 1 + ag (ly0 a k lf).2.1 (ly0 a k lf).2.2 29)) (sa (ly0 a k lf).2.1 (ly0 a k lf).2.2) := by
  cases n with
  | zero => omega
  | succ n => rw [lt1, if_neg (Int32.not_lt.mpr h)]; rfl
