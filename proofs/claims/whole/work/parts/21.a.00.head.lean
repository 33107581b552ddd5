/-! ===== the reference's last ===== -/
theorem d1_s {dy me co : Int32} {S : Nat → Int32} {np : Nat} {ca br ml : Int32} {j : Nat} : d1S dy me co S np ca br ml j * 31 + (cnt dy me co S np ca br ml j).toInt64 = d1S dy me co S np ca br ml (j + 1) := rfl
theorem svP_m1 {Q : Nat → Int32} {j : Nat} (hj : j ≤ 3) (h : (svP Q j).1 = -1) : (svP Q j).2 = nI 0 := (svP_in Q j hj).elim (fun q => q.2) (fun q => absurd (q.1.symm.trans h) (nI_m1 (sn_lt _)))
def svQ (a b : Nat → Int32) : Nat → Int32 := fun q9 => if q9 < 26 then 0 else a q9 + b q9
theorem svQ_c {a b : Nat → Int32} : ∀ j, j < 29 → upd (upd (upd (upd (upd (upd (fun _ => 0) 26 (0 + a 26)) 27 (0 + a 27)) 28 (0 + a 28)) 26 (0 + a 26 + b 26)) 27 (0 + a 27 + b 27)) 28 (0 + a 28 + b 28) j = svQ a b j := by
  intro j hj
  simp only [upd, svQ, Int32.zero_add]
  by_cases h : j < 26
  · rw [if_neg (by omega), if_neg (by omega), if_neg (by omega), if_neg (by omega), if_neg (by omega), if_neg (by omega), if_pos h]
  · rcases (show j = 26 ∨ j = 27 ∨ j = 28 by omega) with rfl | rfl | rfl <;> rfl
