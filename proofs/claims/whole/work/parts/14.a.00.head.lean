/-! ===== what the foundry's methods answer ===== -/
/-- which letter lacks the most -/
def lkS (t : Nat → Nat) (k : Nat) (f : Nat → Int32) : Nat → Int32 × Int32
  | 0 => (-1, nI 0)
  | g + 1 => if nI (ho t g k) - bx_sum (sg f g) 10 ≤ (lkS t k f g).2 then lkS t k f g else (nI g, nI (ho t g k) - bx_sum (sg f g) 10)
theorem lkS_t {t : Nat → Nat} {k g : Nat} {f : Nat → Int32} (h : nI (ho t g k) - bx_sum (sg f g) 10 ≤ (lkS t k f g).2) : lkS t k f (g + 1) = lkS t k f g := by rw [lkS, if_pos h]
theorem lkS_f {t : Nat → Nat} {k g : Nat} {f : Nat → Int32} (h : ¬ nI (ho t g k) - bx_sum (sg f g) 10 ≤ (lkS t k f g).2) : lkS t k f (g + 1) = (nI g, nI (ho t g k) - bx_sum (sg f g) 10) := by rw [lkS, if_neg h]
/-- which ligature saves the most -/
def svS (lf : Nat → Int32) : Nat → Int32 × Int32
  | 0 => (-1, nI 0)
  | j + 1 => if nI 100 - lf (26 + j) ≤ (svS lf j).2 then svS lf j else (nI (26 + j), nI 100 - lf (26 + j))
theorem svS_t {lf : Nat → Int32} {j : Nat} (h : nI 100 - lf (26 + j) ≤ (svS lf j).2) : svS lf (j + 1) = svS lf j := by rw [svS, if_pos h]
theorem svS_f {lf : Nat → Int32} {j : Nat} (h : ¬ nI 100 - lf (26 + j) ≤ (svS lf j).2) : svS lf (j + 1) = (nI (26 + j), nI 100 - lf (26 + j)) := by rw [svS, if_neg h]
def brS (x : Int32) : Int32 := if x = -1 then nI 0 else nI 50 * (nI 10 - x) - nI 1
