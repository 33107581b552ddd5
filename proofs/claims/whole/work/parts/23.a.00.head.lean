/-! ===== what holds of the numbers from call to call ===== -/
def GI (n : Nat) (S : Nat → Int32) (F G : Nat → Nat → Int32) (np : Nat) (pn : Nat → Nat → Int32) : Prop :=
  Gd S ∧ (∀ k, Gd (F k)) ∧ (∀ k, Gd (G k)) ∧ tS S F G ≤ 200 * n ∧ ∀ k, np ≤ k → F k = (fun _ => 0) ∧ G k = (fun _ => 0) ∧ ∀ j, pn k j = 0
theorem gi_GA {n np : Nat} {S : Nat → Int32} {F G pn : Nat → Nat → Int32} (h : GI n S F G np pn) (hn : n ≤ 512) : GA S F G := ⟨h.1, h.2.1, h.2.2.1, by have := h.2.2.2.1; omega⟩
theorem gi_same {n np : Nat} {S : Nat → Int32} {F G pn : Nat → Nat → Int32} (h : GI n S F G np pn) : GI (n + 1) S F G np pn := ⟨h.1, h.2.1, h.2.2.1, by have := h.2.2.2.1; omega, h.2.2.2.2⟩
theorem cdx_0e {g1 g2 g3 : Prop} (h : 0 = cdx g1 g2 g3) : ¬ g1 ∧ ¬ g2 ∧ ¬ g3 := by
  unfold cdx at h
  split at h
  · omega
  · rename_i h1
    split at h
    · omega
    · rename_i h2
      split at h
      · omega
      · rename_i h3
        exact ⟨h1, h2, h3⟩
theorem nne {P : Prop} (h : ¬ ¬ P) : P := Classical.byContradiction h
theorem tP_up {F : Nat → Nat → Int32} {k : Nat} {f : Nat → Int32} (hk : k < 6) : tP (up F k f) + tt (F k) 290 = tP F + tt f 290 := by
  rcases (show k = 0 ∨ k = 1 ∨ k = 2 ∨ k = 3 ∨ k = 4 ∨ k = 5 by omega) with rfl | rfl | rfl | rfl | rfl | rfl
  · simp [tP, up]; omega
  · simp [tP, up]; omega
  · simp [tP, up]; omega
  · simp [tP, up]; omega
  · simp [tP, up]; omega
  · simp [tP, up]; omega
theorem up_Gd {F : Nat → Nat → Int32} {k : Nat} {f : Nat → Int32} (h : ∀ k, Gd (F k)) (hf : Gd f) : ∀ i, Gd (up F k f i) := fun i => by
  unfold up
  split
  · exact hf
  · exact h i
theorem gi_upd {n np k : Nat} {S S' f g : Nat → Int32} {q : Nat → Int32} {F G pn : Nat → Nat → Int32} (h : GI n S F G np pn) (hk : k < np) (hnp : np ≤ 6) (h1 : Gd S') (h2 : Gd f) (h3 : Gd g) (ht : tt S' 290 + tt f 290 + tt g 290 ≤ tt S 290 + tt (F k) 290 + tt (G k) 290 + 200) : GI (n + 1) S' (up F k f) (up G k g) np (up pn k q) := by
  have a := tP_up (F := F) (k := k) (f := f) (by omega)
  have b := tP_up (F := G) (k := k) (f := g) (by omega)
  have c := h.2.2.2.1
  refine ⟨h1, up_Gd h.2.1 h2, up_Gd h.2.2.1 h3, ?_, fun i hi => ?_⟩
  · unfold tS at *; omega
  · rw [up_n _ _ _ (by omega), up_n _ _ _ (by omega), up_n _ _ _ (by omega)]
    exact h.2.2.2.2 i hi
theorem gi_bd {n np k : Nat} {S : Nat → Int32} {F G pn : Nat → Nat → Int32} (h : GI n S F G np pn) (hk : k < np) (hnp : np ≤ 6) (hn : n ≤ 512) : tt S 290 + tt (F k) 290 + tt (G k) 290 < 2 ^ 30 := by
  have a := tP_le (F := F) (k := k) (by omega)
  have b := tP_le (F := G) (k := k) (by omega)
  have c := h.2.2.2.1
  unfold tS at c
  omega
theorem gi_cast {n np : Nat} {S : Nat → Int32} {F G pn : Nat → Nat → Int32} {sv mv : Int32} {X : Prop} (h : GI n S F G np pn) (hn : n ≤ 512) (hz : 0 = cdx (¬ isS sv) (¬ isM mv) X) : GI (n + 1) (upd S (sn sv * 10 + 0) (S (sn sv * 10 + 0) + mv)) F G np pn := by
  obtain ⟨a, b, -⟩ := cdx_0e hz
  have hs := (nne a).1
  obtain ⟨m1, m2, m3⟩ := isM_sn (nne b)
  have hi : sn sv * 10 + 0 < 290 := by omega
  have c := h.2.2.2.1
  have t := tt_upd S (S (sn sv * 10 + 0) + mv) hi
  have e : S (sn sv * 10 + 0) + mv = nI (sn (S (sn sv * 10 + 0)) + sn mv) := by
    conv => lhs; rw [nn_sn (h.1.1 (sn sv * 10 + 0)), m3]
    exact nI_add _ _
  have l := sn_le_tt S hi
  unfold tS at c
  have e2 : sn (S (sn sv * 10 + 0) + mv) = sn (S (sn sv * 10 + 0)) + sn mv := by rw [e, sn_nI (by omega)]
  refine ⟨Gd_upd h.1 hi (by rw [e]; exact nn_nI (by omega)), h.2.1, h.2.2.1, ?_, h.2.2.2.2⟩
  unfold tS
  omega
theorem tt_le {f g : Nat → Int32} : ∀ n, (∀ i, i < n → sn (f i) ≤ sn (g i)) → tt f n ≤ tt g n
  | 0, _ => Nat.le_refl _
  | n + 1, h => Nat.add_le_add (tt_le n (fun i hi => h i (by omega))) (h n (by omega))
theorem gi_melt {n np w : Nat} {S : Nat → Int32} {F G pn : Nat → Nat → Int32} (h : GI n S F G np pn) : GI (n + 1) (df S w 290) F G np pn := by
  have e : ∀ i, df S w 290 i = 0 ∨ df S w 290 i = S i := fun i => by
    simp only [df]
    split
    · exact Or.inl rfl
    · exact Or.inr rfl
  have z : sn (0 : Int32) = 0 := by decide
  have c := h.2.2.2.1
  have t : tt (df S w 290) 290 ≤ tt S 290 := tt_le 290 (fun i _ => (e i).elim (fun q => by rw [q, z]; exact Nat.zero_le _) (fun q => by rw [q]; exact Nat.le_refl _))
  refine ⟨⟨fun i => ?_, fun i hi => ?_⟩, h.2.1, h.2.2.1, ?_, h.2.2.2.2⟩
  · rcases e i with q | q <;> rw [q]
    · exact Int32.le_refl 0
    · exact h.1.1 i
  · rcases e i with q | q <;> rw [q]
    exact h.1.2 i hi
  · unfold tS at *; omega
theorem up_z {F : Nat → Nat → Int32} {k : Nat} {v : Nat → Int32} (h : F k = v) : up F k v = F := by rw [← h, up_self]
theorem gi_come {n np : Nat} {S : Nat → Int32} {F G pn : Nat → Nat → Int32} {q : Nat → Int32} (h : GI n S F G np pn) : GI (n + 1) S (up F np (fun _ => 0)) (up G np (fun _ => 0)) (np + 1) (up pn np q) := by
  obtain ⟨a, b, -⟩ := h.2.2.2.2 np (Nat.le_refl _)
  rw [up_z a, up_z b]
  refine ⟨h.1, h.2.1, h.2.2.1, by have := h.2.2.2.1; omega, fun k hk => ?_⟩
  rw [up_n _ _ _ (by omega)]
  exact h.2.2.2.2 k (by omega)
theorem gi_rent {n np : Nat} {S q : Nat → Int32} {F G pn : Nat → Nat → Int32} {pv sv mv : Int32} {X : Prop} (h : GI n S F G np pn) (hn : n ≤ 512) (hnp : np ≤ 6) (hz : 0 = cdx (¬ isP pv np ∨ ¬ isS sv) (¬ isM mv) X) :
    GI (n + 1) (mvS oU (sn sv) mv S (F (sn pv)) 10).2.2.1 (up F (sn pv) (mvS oU (sn sv) mv S (F (sn pv)) 10).2.2.2) (up G (sn pv) (G (sn pv))) np (up pn (sn pv) q) := by
  obtain ⟨a, b, -⟩ := cdx_0e hz
  have hP : isP pv np := nne (fun q => a (Or.inl q))
  have hS : isS sv := nne (fun q => a (Or.inr q))
  obtain ⟨m1, m2, m3⟩ := isM_sn (nne b)
  have bd := gi_bd h hP.1 hnp hn
  obtain ⟨-, i1, i2, i3⟩ := mvS_inv (q := mv) oU_lt hS.1 (by rw [m3]; exact nn_nI (by omega)) h.1 (h.2.1 (sn pv)) (by omega) 10 (Nat.le_refl _)
  exact gi_upd h hP.1 hnp i1 i2 (h.2.2.1 _) (by omega)
theorem gi_give {n np : Nat} {S q : Nat → Int32} {F G pn : Nat → Nat → Int32} {pv sv mv : Int32} {X : Prop} (h : GI n S F G np pn) (hn : n ≤ 512) (hnp : np ≤ 6) (hz : 0 = cdx (¬ isP pv np ∨ ¬ isS sv) (¬ isM mv) X) :
    GI (n + 1) (mvS oD (sn sv) mv (F (sn pv)) S 10).2.2.2 (up F (sn pv) (mvS oD (sn sv) mv (F (sn pv)) S 10).2.2.1) (up G (sn pv) (G (sn pv))) np (up pn (sn pv) q) := by
  obtain ⟨a, b, -⟩ := cdx_0e hz
  have hP : isP pv np := nne (fun q => a (Or.inl q))
  have hS : isS sv := nne (fun q => a (Or.inr q))
  obtain ⟨m1, m2, m3⟩ := isM_sn (nne b)
  have bd := gi_bd h hP.1 hnp hn
  obtain ⟨-, i1, i2, i3⟩ := mvS_inv (q := mv) oD_lt hS.1 (by rw [m3]; exact nn_nI (by omega)) (h.2.1 (sn pv)) h.1 (by omega) 10 (Nat.le_refl _)
  exact gi_upd h hP.1 hnp i2 i1 (h.2.2.1 _) (by omega)
theorem gi_pay {n np : Nat} {S q : Nat → Int32} {F G pn : Nat → Nat → Int32} {pv : Int32} {X Y : Prop} (h : GI n S F G np pn) (hnp : np ≤ 6) (hz : 0 = cdx (¬ isP pv np) X Y) : GI (n + 1) S (up F (sn pv) (F (sn pv))) (up G (sn pv) (G (sn pv))) np (up pn (sn pv) q) :=
  gi_upd h (nne (cdx_0e hz).1).1 hnp h.1 (h.2.1 _) (h.2.2.1 _) (by omega)
theorem gi_set {n np : Nat} {S q : Nat → Int32} {F G pn : Nat → Nat → Int32} {pv wv : Int32} {X : Prop} (h : GI n S F G np pn) (hn : n ≤ 512) (hnp : np ≤ 6) (hz : 0 = cdx (¬ isP pv np) (¬ isW wv) X) :
    GI (n + 1) S (up F (sn pv) (stS (ly0 (wla wv) (wkk wv) (lk (F (sn pv)))).2.2 (F (sn pv)) (G (sn pv)) 29).1) (up G (sn pv) (stS (ly0 (wla wv) (wkk wv) (lk (F (sn pv)))).2.2 (F (sn pv)) (G (sn pv)) 29).2) np (up pn (sn pv) q) := by
  obtain ⟨a, b, -⟩ := cdx_0e hz
  have hP := (nne a).1
  obtain ⟨k1, k6, ka⟩ := isW_la (nne b)
  have bd := gi_bd h hP hnp hn
  have hkp := ly0_keep k6 ka (lk_nn (h.2.1 (sn pv)) (by omega))
  obtain ⟨i1, i2, i3, -⟩ := stS_inv (h.2.1 (sn pv)) (h.2.2.1 (sn pv)) (by omega) (fun q hq => (hkp q hq).2.1) 29 (Nat.le_refl _)
  exact gi_upd h hP hnp h.1 i1 i2 (by omega)
theorem prS_inv {m : Nat} {f : Nat → Int32} (hm : 1 ≤ m) (h : Gd f) (hb : tt f 290 < 2 ^ 31) : ∀ j, j ≤ 290 → Gd (prS m f j).2 ∧ tt (prS m f j).2 290 ≤ tt f 290 := by
  intro j
  induction j with
  | zero => intro _; exact ⟨h, Nat.le_refl _⟩
  | succ j ih =>
    intro hj
    obtain ⟨a, b⟩ := ih (by omega)
    have hi : 290 - 1 - j < 290 := by omega
    have z : sn (nI 0) = 0 := by decide
    have g1 : Gd (upd (prS m f j).2 (290 - 1 - j) (nI 0)) := Gd_upd a hi (nn_nI (by omega))
    have t1 := tt_upd (prS m f j).2 (nI 0) hi
    rw [z] at t1
    show Gd (prT m (290 - 1 - j) (prS m f j)).2 ∧ tt (prT m (290 - 1 - j) (prS m f j)).2 290 ≤ tt f 290
    unfold prT
    split
    · rename_i h9
      have hi2 : 290 - 1 - j + m < 290 := by omega
      have e : upd (prS m f j).2 (290 - 1 - j) (nI 0) (290 - 1 - j + m) + (prS m f j).2 (290 - 1 - j) = nI (sn (upd (prS m f j).2 (290 - 1 - j) (nI 0) (290 - 1 - j + m)) + sn ((prS m f j).2 (290 - 1 - j))) := by
        conv => lhs; rw [nn_sn (g1.1 (290 - 1 - j + m)), nn_sn (a.1 (290 - 1 - j))]
        exact nI_add _ _
      have l := sn_le_tt (upd (prS m f j).2 (290 - 1 - j) (nI 0)) hi2
      have t2 := tt_upd (upd (prS m f j).2 (290 - 1 - j) (nI 0)) (upd (prS m f j).2 (290 - 1 - j) (nI 0) (290 - 1 - j + m) + (prS m f j).2 (290 - 1 - j)) hi2
      have e2 : sn (upd (prS m f j).2 (290 - 1 - j) (nI 0) (290 - 1 - j + m) + (prS m f j).2 (290 - 1 - j)) = sn (upd (prS m f j).2 (290 - 1 - j) (nI 0) (290 - 1 - j + m)) + sn ((prS m f j).2 (290 - 1 - j)) := by rw [e, sn_nI (by omega)]
      rw [e2] at t2
      refine ⟨Gd_upd g1 hi2 (by rw [e]; exact nn_nI (by omega)), ?_⟩
      show tt (upd _ _ _) 290 ≤ _
      omega
    · refine ⟨g1, ?_⟩
      show tt (upd _ _ _) 290 ≤ _
      omega
theorem prX_inv {m : Nat} {f : Nat → Int32} (h : Gd f) (hb : tt f 290 < 2 ^ 31) : Gd (prX m f).2 ∧ tt (prX m f).2 290 ≤ tt f 290 := by
  unfold prX
  split
  · exact ⟨h, Nat.le_refl _⟩
  · exact prS_inv (by omega) h hb 290 (Nat.le_refl _)
theorem gi_dist {n np : Nat} {S q : Nat → Int32} {F G pn : Nat → Nat → Int32} {pv : Int32} {X Y : Prop} (h : GI n S F G np pn) (hn : n ≤ 512) (hnp : np ≤ 6) (hz : 0 = cdx (¬ isP pv np) X Y) :
    GI (n + 1) S (up F (sn pv) (diS (G (sn pv)) (F (sn pv)) 29).2) (up G (sn pv) (diS (G (sn pv)) (F (sn pv)) 29).1) np (up pn (sn pv) q) := by
  have hP := (nne (cdx_0e hz).1).1
  have bd := gi_bd h hP hnp hn
  have key : ∀ j, j ≤ 29 → Gd (diS (G (sn pv)) (F (sn pv)) j).1 ∧ Gd (diS (G (sn pv)) (F (sn pv)) j).2 ∧ tt (diS (G (sn pv)) (F (sn pv)) j).1 290 + tt (diS (G (sn pv)) (F (sn pv)) j).2 290 = tt (G (sn pv)) 290 + tt (F (sn pv)) 290 := by
    intro j
    induction j with
    | zero => intro _; exact ⟨h.2.2.1 _, h.2.1 _, rfl⟩
    | succ j ih =>
      intro hj
      obtain ⟨a, b, c⟩ := ih (by omega)
      obtain ⟨-, a2, b2, c2⟩ := mvS_inv (g := j) (q := bx_sum (sg (diS (G (sn pv)) (F (sn pv)) j).1 j) 10) oU_lt (by omega) (by rw [Gd_bx a]; have := tt_sgle (f := (diS (G (sn pv)) (F (sn pv)) j).1) (g := j) (by omega); exact nn_nI (by omega)) a b (by omega) 10 (Nat.le_refl _)
      exact ⟨a2, b2, c2.trans c⟩
  obtain ⟨a, b, c⟩ := key 29 (Nat.le_refl _)
  exact gi_upd h hP hnp h.1 b a (by omega)
theorem psS_off {dv : Int32} {F G pn : Nat → Nat → Int32} {k : Nat} : ∀ n, n ≤ k → (psS dv F G pn n).1 k = pn k
  | 0, _ => rfl
  | n + 1, h => by
    show up (psS dv F G pn n).1 n _ k = _
    rw [up_n _ _ _ (by omega)]
    exact psS_off n (by omega)
theorem gi_pass {n np : Nat} {S : Nat → Int32} {F G pn : Nat → Nat → Int32} {dv : Int32} (h : GI n S F G np pn) : GI (n + 1) S F G np (psS dv F G pn np).1 := by
  have g := gi_same h
  refine ⟨g.1, g.2.1, g.2.2.1, g.2.2.2.1, fun k hk => ?_⟩
  rw [psS_off np hk]
  exact h.2.2.2.2 k hk
