/-! ===== a printer's and the foundry's numbers ===== -/
def nmb (f g q : Nat → Int32) (w : Nat) : Int32 := match w with
  | 0 => q 0
  | 1 => q 1
  | 2 => bx_sum f 290
  | 3 => bx_sum g 290
  | 4 => bx_sum (wr g) 290
  | 5 => q 2
  | _ => q 3
def pdg (d : Int64) (f g q : Nat → Int32) : Nat → Int64
  | 0 => d
  | j + 1 => pdg d f g q j * 31 + (nmb f g q j).toInt64
def cnt (dy me co : Int32) (S : Nat → Int32) (np : Nat) (ca br ml : Int32) (w : Nat) : Int32 := match w with
  | 0 => dy
  | 1 => me
  | 2 => co
  | 3 => bx_sum S 290
  | 4 => nI np
  | 5 => ca
  | 6 => br
  | _ => ml
def pr3 (g : Nat) : Int32 := if 26 ≤ g then nI 3 else nI 2
theorem pr3_t {g : Nat} (h : 26 ≤ g) : nI 3 = pr3 g := (if_pos h).symm
theorem pr3_f {g : Nat} (h : g < 26) : nI 2 = pr3 g := (if_neg (by omega)).symm
/-- a word's number of letters, and its letters -/
noncomputable def wkk (x : Int32) : Nat := @dite Nat (∃ k, wdk (sn x) k) (Classical.propDecidable _) (fun h => Classical.choose h) (fun _ => 0)
noncomputable def wla (x : Int32) : Nat → Nat := wl (sn x) (wkk x)
theorem wkk_of {x : Int32} {v k : Nat} (hv : v < 2 ^ 31) (hx : x = nI v) (h : wdk v k) : wkk x = k ∧ sn x = v := by
  have e : sn x = v := by rw [hx]; exact sn_nI hv
  have h2 : ∃ k, wdk (sn x) k := ⟨k, by rw [e]; exact h⟩
  refine ⟨?_, e⟩
  unfold wkk
  rw [dif_pos h2]
  have h3 := Classical.choose_spec h2
  exact wdk_uni h3 (by rw [e]; exact h)
theorem isW_k {x : Int32} (h : isW x) : wdk (sn x) (wkk x) ∧ x = nI (sn x) := by
  obtain ⟨v, k, h1, h2, h3⟩ := h
  obtain ⟨e1, e2⟩ := wkk_of h1 h2 h3
  rw [e1, e2]
  exact ⟨h3, h2⟩
/-- setting: the sorts of each sign go from the case into the form -/
def stS (tk f g : Nat → Int32) : Nat → (Nat → Int32) × (Nat → Int32)
  | 0 => (f, g)
  | j + 1 => ((mvS oD j (tk j) (stS tk f g j).1 (stS tk f g j).2 10).2.2.1, (mvS oD j (tk j) (stS tk f g j).1 (stS tk f g j).2 10).2.2.2)
/-- putting back: the form, the case -/
def diS (g f : Nat → Int32) : Nat → (Nat → Int32) × (Nat → Int32)
  | 0 => (g, f)
  | j + 1 => ((mvS oU j (bx_sum (sg (diS g f j).1 j) 10) (diS g f j).1 (diS g f j).2 10).2.2.1, (mvS oU j (bx_sum (sg (diS g f j).1 j) 10) (diS g f j).1 (diS g f j).2 10).2.2.2)
def isT (x : Int32) : Prop := (1 ≤ sn x ∧ sn x < 10) ∧ x = nI (sn x)
theorem isT_of {x : Int32} (h1 : ¬ x < nI 1) (h2 : x < nI 10) : isT x := by
  have h3 : ¬ x.toInt < (nI 1).toInt := fun q => h1 (Int32.lt_iff_toInt_lt.mpr q)
  rw [nI_toInt (by omega)] at h3
  obtain ⟨e1, e2⟩ := zsn (x := x) (by omega)
  have h4 := Int32.lt_iff_toInt_lt.mp h2
  rw [nI_toInt (by omega)] at h4
  exact ⟨⟨by omega, by omega⟩, e1⟩
theorem isT_lo {x : Int32} (h : x < nI 1) : ¬ isT x := by
  rintro ⟨⟨h1, h2⟩, h3⟩
  rw [h3] at h
  have := (nI_ltI (by omega) (by omega)).mp h
  omega
theorem isT_hi {x : Int32} (h : ¬ x < nI 10) : ¬ isT x := by
  rintro ⟨⟨h1, h2⟩, h3⟩
  rw [h3] at h
  exact h ((nI_ltI (by omega) (by omega)).mpr h2)
/-- from the one number to the other -/
def inR (x : Int32) (a b : Nat) : Prop := nI a ≤ x ∧ x ≤ nI b
theorem inR_lo {x : Int32} {a b : Nat} (h : x < nI a) : ¬ inR x a b := fun q => absurd h (Int32.not_lt.mpr q.1)
theorem inR_hi {x : Int32} {a b : Nat} (h : ¬ x ≤ nI b) : ¬ inR x a b := fun q => h q.2
theorem inR_of {x : Int32} {a b : Nat} (h1 : ¬ x < nI a) (h2 : x ≤ nI b) : inR x a b := ⟨Int32.not_lt.mp h1, h2⟩
theorem inR_sn {x : Int32} {a b : Nat} (h : inR x a b) (hb : b < 2 ^ 31) (hab : a ≤ b) : a ≤ sn x ∧ sn x ≤ b ∧ x = nI (sn x) := by
  have h1 := Int32.le_iff_toInt_le.mp h.1
  have h2 := Int32.le_iff_toInt_le.mp h.2
  rw [nI_toInt (by omega)] at h1
  rw [nI_toInt hb] at h2
  obtain ⟨e1, e2⟩ := zsn (x := x) (by omega)
  exact ⟨by omega, by omega, e1⟩
theorem or3 {a b c : Prop} (h : ¬ (a ∧ b)) : ¬ a ∨ ¬ b := by
  rcases Classical.em a with q | q
  · exact Or.inr (fun z => h ⟨q, z⟩)
  · exact Or.inl q
