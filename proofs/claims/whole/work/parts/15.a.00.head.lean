theorem zmid (X P N : va_W) : ((X ++ P) ++ N).Perm (X ++ (N ++ P)) := by rw [List.append_assoc]; exact List.perm_append_comm.append_left X
def a5 (q0 q1 q2 q3 q5 : Nat) : Nat → Nat := fun j => match j with
  | 0 => q0
  | 1 => q1
  | 2 => q2
  | 3 => q3
  | _ => q5
theorem pav_up (ad : Nat → Nat → Nat) (n : Nat) (an : Nat → Nat) : va_up (pav ad n) n (some (an 0)) = pav (up ad n an) (n + 1) := by
  funext i
  unfold va_up pav up
  by_cases h : i = n
  · subst h; simp
  · rw [if_neg h]
    by_cases h2 : i < n
    · rw [if_pos h2, if_pos (by omega), if_neg h]
    · rw [if_neg h2, if_neg (by omega)]
/-- a new printer's cells join the pool -/
theorem zp_new {Z : zT} {n : Nat} {ad : Nat → Nat → Nat} {F G pn : Nat → Nat → Int32} (X : va_W) (q0 q1 q2 q3 q5 : Nat) (f g : Nat → Int32) (a b c d : Int32) :
    (X ++ ([(q0, .inr (0, [.ref q1, .ref q3, .int a, .int b, .int c, .int d])), (q1, .inr (2, [.ref q2])), (q2, zI Z 290 f), (q3, .inr (2, [.ref q5])), (q5, zI Z 290 g)] ++ zpool n (pcs Z ad F G pn))).Perm (X ++ zpool (n + 1) (pcs Z (up ad n (a5 q0 q1 q2 q3 q5)) (up F n f) (up G n g) (up pn n (q4 a b c d)))) := by
  refine List.Perm.append_left X ?_
  rw [zpool_s, zpool_cong (f := pcs Z ad F G pn) (f' := pcs Z (up ad n (a5 q0 q1 q2 q3 q5)) (up F n f) (up G n g) (up pn n (q4 a b c d))) (fun i hi => by unfold pcs; rw [up_n _ _ _ (by omega), up_n _ _ _ (by omega), up_n _ _ _ (by omega), up_n _ _ _ (by omega)])]
  refine List.perm_append_comm.trans (List.Perm.of_eq ?_)
  unfold pcs
  rw [up_s, up_s, up_s, up_s]
  rfl
theorem up_self {α : Type} (f : Nat → α) (k : Nat) : up f k (f k) = f := by
  funext i
  unfold up
  by_cases h : i = k
  · subst h; simp
  · rw [if_neg h]
def rnt (f g : Nat → Int32) : Int32 := (bx_sum f 290 + bx_sum g 290 + nI 10 - nI 1) / nI 10
/-- days go by: the printers' numbers and what is owed in all, the first i printers done -/
def psT (dv : Int32) (F G : Nat → Nat → Int32) (i : Nat) (s : (Nat → Nat → Int32) × Int32) : (Nat → Nat → Int32) × Int32 :=
  (up s.1 i (q4 (s.1 i 0) (s.1 i 1 + dv * rnt (F i) (G i)) (s.1 i 2) (s.1 i 3)), s.2 + (s.1 i 1 + dv * rnt (F i) (G i)))
def psS (dv : Int32) (F G pn : Nat → Nat → Int32) : Nat → (Nat → Nat → Int32) × Int32
  | 0 => (pn, nI 0)
  | i + 1 => psT dv F G i (psS dv F G pn i)
theorem psS_lt {dv : Int32} {F G pn : Nat → Nat → Int32} {j n : Nat} (h : j < n) : psS dv F G pn (min (j + 1) n) = psT dv F G j (psS dv F G pn (min j n)) := by
  rw [show min (j + 1) n = j + 1 by omega, show min j n = j by omega]
  rfl
theorem psS_ge {dv : Int32} {F G pn : Nat → Nat → Int32} {j n : Nat} (h : n ≤ j) : psS dv F G pn (min (j + 1) n) = psS dv F G pn (min j n) := by
  rw [show min (j + 1) n = n by omega, show min j n = n by omega]
/-- the checksum -/
def d1S (dy me co : Int32) (S : Nat → Int32) (np : Nat) (ca br ml : Int32) : Nat → Int64
  | 0 => 751
  | j + 1 => d1S dy me co S np ca br ml j * 31 + (cnt dy me co S np ca br ml j).toInt64
def d2S (d : Int64) (F : Nat → Nat → Int32) : Nat → Int64
  | 0 => d
  | j + 1 => dg (d2S d F j) (F j) 290
theorem d2S_lt {d : Int64} {F : Nat → Nat → Int32} {j n : Nat} (h : j < n) : d2S d F (min (j + 1) n) = dg (d2S d F (min j n)) (F j) 290 := by
  rw [show min (j + 1) n = j + 1 by omega, show min j n = j by omega]
  rfl
theorem d2S_ge {d : Int64} {F : Nat → Nat → Int32} {j n : Nat} (h : n ≤ j) : d2S d F (min (j + 1) n) = d2S d F (min j n) := by
  rw [show min (j + 1) n = n by omega, show min j n = n by omega]
def d3S (d : Int64) (F G pn : Nat → Nat → Int32) : Nat → Int64
  | 0 => d
  | j + 1 => pdg (d3S d F G pn j) (F j) (G j) (q4 (pn j 0) (pn j 1) (pn j 2) (pn j 3)) 7
theorem d3S_lt {d : Int64} {F G pn : Nat → Nat → Int32} {j n : Nat} (h : j < n) : d3S d F G pn (min (j + 1) n) = pdg (d3S d F G pn (min j n)) (F j) (G j) (q4 (pn j 0) (pn j 1) (pn j 2) (pn j 3)) 7 := by
  rw [show min (j + 1) n = j + 1 by omega, show min j n = j by omega]
  rfl
theorem d3S_ge {d : Int64} {F G pn : Nat → Nat → Int32} {j n : Nat} (h : n ≤ j) : d3S d F G pn (min (j + 1) n) = d3S d F G pn (min j n) := by
  rw [show min (j + 1) n = n by omega, show min j n = n by omega]
/-- the mean of whole numbers is a number -/
theorem zmean (a b : Int32) (hb : ¬ b = 0) : vf_n64 (FP.ddiv (FP.i2d a) (FP.i2d b)) := by
  have h : FP.Core.dIsNaN (FP.Core.ddiv (FP.Core.i2d a) (FP.Core.i2d b)) = false := FP.Core.ddiv_out ((FP.Core.notNaN_iff _).mpr (FP.Core.i2d_fin a).ne_nan) (FP.Core.i2d_fin b) (fun h => FP.Core.i2d_ne_zero hb ((FP.Core.zero_bits2 _).mp h))
  unfold vf_n64
  rw [UInt64.le_iff_toNat_le, UInt64.toNat_and]
  have h1 : (0x7fffffffffffffff : UInt64).toNat = 2 ^ 63 - 1 := by decide
  have h2 : (0x7ff0000000000000 : UInt64).toNat = 9218868437227405312 := by decide
  rw [h1, h2, Nat.and_two_pow_sub_one_eq_mod]
  rw [← Bool.not_eq_true, FP.Core.isNaN_bits] at h
  show (FP.Core.ddiv (FP.Core.i2d a) (FP.Core.i2d b)).toNat % 2 ^ 63 ≤ _
  omega
def mnS (f : Nat → Int32) : UInt64 := if bx_sum f 290 = 0 then FP.dconst0 else FP.ddiv (FP.i2d (bx_sum (wr f) 290)) (FP.i2d (bx_sum f 290))
