theorem zinc1 (a : Nat) : nI a + Int32.ofInt 1 = nI (a + 1) := nI_1 a
theorem zinc4 (a : Nat) : nI a + Int32.ofInt 4 = nI (a + 4) := nI_add a 4
theorem zdec1 (a : Nat) : nI (a + 1) + Int32.ofInt (-1) = nI a := pk_m1 a
/-! ===== what the class's stores compute ===== -/
/-- ten numbers of a sign -/
def sg (f : Nat → Int32) (g : Nat) : Nat → Int32 := fun q9 => f (g * 10 + q9)
def wr (f : Nat → Int32) : Nat → Int32 := fun q9 => f q9 * nI (q9 % 10)
/-- the greatest wear among the first n numbers -/
def gw (f : Nat → Int32) : Nat → Int32
  | 0 => -1
  | n + 1 => if 0 < f n then (if gw f n < nI (n % 10) then nI (n % 10) else gw f n) else gw f n
theorem gw_t {f : Nat → Int32} {n : Nat} (h : 0 < f n) : (if gw f n < nI (n % 10) then nI (n % 10) else gw f n) = gw f (n + 1) := by rw [gw, if_pos h]
theorem gw_f {f : Nat → Int32} {n : Nat} (h : ¬ 0 < f n) : gw f n = gw f (n + 1) := by rw [gw, if_neg h]
def mn (x y : Int32) : Int32 := if y < x then y else x
/-- the metal of the first n numbers, those with the wear w or more -/
def mf (f : Nat → Int32) (w : Nat) : Nat → Int32
  | 0 => 0
  | n + 1 => if n % 10 < w then mf f w n else mf f w n + f n * (if n / 10 < 26 then nI 1 else nI 2)
theorem mf_skip (f : Nat → Int32) (w g : Nat) : ∀ j, j ≤ w → w ≤ 10 → mf f w (g * 10 + j) = mf f w (g * 10)
  | 0, _, _ => rfl
  | j + 1, h, h2 => by
    rw [show g * 10 + (j + 1) = (g * 10 + j) + 1 by omega, mf, if_pos (by omega), mf_skip f w g j (by omega) h2]
theorem mf_s1 {f : Nat → Int32} {w g j : Nat} (h1 : w ≤ j) (h2 : j < 10) (h3 : g < 26) : mf f w (g * 10 + j) + f (g * 10 + j) * nI 1 = mf f w (g * 10 + (j + 1)) := by
  rw [show g * 10 + (j + 1) = (g * 10 + j) + 1 by omega, mf, if_neg (by omega), if_pos (by omega)]
theorem mf_s2 {f : Nat → Int32} {w g j : Nat} (h1 : w ≤ j) (h2 : j < 10) (h3 : 26 ≤ g) : mf f w (g * 10 + j) + f (g * 10 + j) * nI 2 = mf f w (g * 10 + (j + 1)) := by
  rw [show g * 10 + (j + 1) = (g * 10 + j) + 1 by omega, mf, if_neg (by omega), if_neg (by omega)]
/-- how many of the first n numbers' sorts have the wear w or more -/
def cf (f : Nat → Int32) (w : Nat) : Nat → Int32
  | 0 => 0
  | n + 1 => if n % 10 < w then cf f w n else cf f w n + f n
theorem cf_skip (f : Nat → Int32) (w g : Nat) : ∀ j, j ≤ w → w ≤ 10 → cf f w (g * 10 + j) = cf f w (g * 10)
  | 0, _, _ => rfl
  | j + 1, h, h2 => by
    rw [show g * 10 + (j + 1) = (g * 10 + j) + 1 by omega, cf, if_pos (by omega), cf_skip f w g j (by omega) h2]
theorem cf_s {f : Nat → Int32} {w g j : Nat} (h1 : w ≤ j) (h2 : j < 10) : cf f w (g * 10 + j) + f (g * 10 + j) = cf f w (g * 10 + (j + 1)) := by
  rw [show g * 10 + (j + 1) = (g * 10 + j) + 1 by omega, cf, if_neg (by omega)]
/-- the numbers, those of the first n with the wear w or more at 0 -/
def df (f : Nat → Int32) (w n : Nat) : Nat → Int32 := fun k => if k < n ∧ ¬ k % 10 < w then 0 else f k
theorem df_0 (f : Nat → Int32) (w : Nat) : df f w 0 = f := by funext k; simp [df]
theorem df_skip (f : Nat → Int32) (w g : Nat) {j : Nat} (h : j ≤ w) (h2 : w ≤ 10) : df f w (g * 10 + j) = df f w (g * 10) := by
  funext k
  by_cases h3 : k < g * 10 ∧ ¬ k % 10 < w
  · simp only [df]; rw [if_pos h3, if_pos (by omega)]
  · simp only [df]; rw [if_neg h3, if_neg (by omega)]
theorem df_at {f : Nat → Int32} {w n : Nat} : df f w n n = f n := by simp [df]
theorem zaddneg (x : Int32) : x + -x = 0 := by rw [← Int32.sub_eq_add_neg]; exact Int32.sub_self x
theorem df_s {f : Nat → Int32} {w g j : Nat} (h1 : w ≤ j) (h2 : j < 10) (x : Int32) (hx : x = 0) : upd (df f w (g * 10 + j)) (g * 10 + j) x = df f w (g * 10 + (j + 1)) := by
  subst hx
  funext k
  by_cases hk : k = g * 10 + j
  · subst hk; simp [upd, df]; intro h; omega
  · simp only [upd, if_neg hk, df]
    by_cases h3 : k < g * 10 + j ∧ ¬ k % 10 < w
    · rw [if_pos h3, if_pos (by omega)]
    · rw [if_neg h3, if_neg (by omega)]
theorem zlig0 {g : Nat} (h : (if 26 ≤ g then (1 : Int32) else 0) = 0) : g < 26 := by
  rcases Nat.lt_or_ge g 26 with q | q
  · exact q
  · rw [if_pos q] at h; exact absurd h (by decide)
theorem zlig1 {g : Nat} (h : ¬ (if 26 ≤ g then (1 : Int32) else 0) = 0) : 26 ≤ g := by
  rcases Nat.lt_or_ge g 26 with q | q
  · rw [if_neg (by omega)] at h; exact absurd rfl h
  · exact q
/-- moving: what is wanting, the wear added, the two stores, when j places of the order o were visited -/
def mvT (g o : Nat) (s : Int32 × Int32 × (Nat → Int32) × (Nat → Int32)) : Int32 × Int32 × (Nat → Int32) × (Nat → Int32) :=
  (s.1 - mn s.1 (s.2.2.1 (g * 10 + o)), s.2.1 + mn s.1 (s.2.2.1 (g * 10 + o)) * nI o, upd s.2.2.1 (g * 10 + o) (s.2.2.1 (g * 10 + o) + -mn s.1 (s.2.2.1 (g * 10 + o))), upd s.2.2.2 (g * 10 + o) (s.2.2.2 (g * 10 + o) + mn s.1 (s.2.2.1 (g * 10 + o))))
def mvS (o : Nat → Nat) (g : Nat) (q : Int32) (f h : Nat → Int32) : Nat → Int32 × Int32 × (Nat → Int32) × (Nat → Int32)
  | 0 => (q, 0, f, h)
  | j + 1 => mvT g (o j) (mvS o g q f h j)
def oU : Nat → Nat := fun j => j
def oD : Nat → Nat := fun j => 9 - j
def w9 (j : Nat) : Int32 := if j < 10 then nI (9 - j) else -1
theorem w9_lt {j : Nat} (h : j < 10) : w9 j = nI (9 - j) := if_pos h
theorem w9_ge {j : Nat} (h : 10 ≤ j) : w9 j = -1 := if_neg (by omega)
theorem w9_s {j : Nat} (h : j < 10) : nI (9 - j) + Int32.ofInt (-1) = w9 (j + 1) := by
  rcases Nat.lt_or_ge j 9 with q | q
  · rw [w9_lt (by omega), show 9 - j = (9 - (j + 1)) + 1 by omega]; exact zdec1 _
  · obtain rfl : j = 9 := by omega
    decide
/-- wearing by m: what broke, and the store; of the sign g, j wears were visited from the greatest down -/
def wbT (g w : Nat) (s : Int32 × (Nat → Int32)) : Nat → Int32 := upd s.2 (g * 10 + w) (s.2 (g * 10 + w) + -s.2 (g * 10 + w))
def wbU (m g w : Nat) (s : Int32 × (Nat → Int32)) : Int32 × (Nat → Int32) :=
  if w + m < 10 then (s.1, upd (wbT g w s) (g * 10 + (w + m)) (wbT g w s (g * 10 + (w + m)) + s.2 (g * 10 + w))) else (s.1 + s.2 (g * 10 + w), wbT g w s)
theorem wbU_t {m g w : Nat} {s : Int32 × (Nat → Int32)} (h : w + m < 10) : wbU m g w s = (s.1, upd (wbT g w s) (g * 10 + (w + m)) (wbT g w s (g * 10 + (w + m)) + s.2 (g * 10 + w))) := if_pos h
theorem wbU_f {m g w : Nat} {s : Int32 × (Nat → Int32)} (h : ¬ w + m < 10) : wbU m g w s = (s.1 + s.2 (g * 10 + w), wbT g w s) := if_neg h
def wbI (m g : Nat) (s : Int32 × (Nat → Int32)) : Nat → Int32 × (Nat → Int32)
  | 0 => s
  | j + 1 => wbU m g (9 - j) (wbI m g s j)
theorem wbI_s (m g : Nat) (s : Int32 × (Nat → Int32)) (j : Nat) : wbI m g s (j + 1) = wbU m g (9 - j) (wbI m g s j) := rfl
def wbO (m : Nat) (f : Nat → Int32) : Nat → Int32 × (Nat → Int32)
  | 0 => (0, f)
  | g + 1 => wbI m g (wbO m f g) 10
theorem wbO_s (m : Nat) (f : Nat → Int32) (g : Nat) : wbO m f (g + 1) = wbI m g (wbO m f g) 10 := rfl
def dg (d : Int64) (f : Nat → Int32) : Nat → Int64
  | 0 => d
  | n + 1 => dg d f n * 31 + (f n).toInt64
