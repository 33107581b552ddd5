/-! ===== the law's start ===== -/
theorem zst_ex : ∀ q ∈ zStr, Cond.exactly (.string RX4 q.1) "java/lang/String" ∈ flatC (Jvm.Cond.and given_1 narrow_1) := by decide +kernel
theorem zst_ref : ∀ q ∈ zStr, Cond.stringRef RX4 q.1 q.2 ∈ lw_tbl := by decide +kernel
theorem znc_in : ∀ q ∈ zNc, Cond.not (.castable q.1 q.2) ∈ flatC (Jvm.Cond.and given_1 narrow_1) := by decide +kernel
theorem zns_in : ∀ w ∈ zNs, w ∈ lw_tbl := by decide +kernel
theorem zns_on : ∀ w ∈ zNs, w.onTables = true := by decide +kernel
theorem zs_u : Cond.isRef (.static Bundle.tN "UNASSIGNED_STACK" Bundle.steD) ∈ flatC (Jvm.Cond.and given_1 narrow_1) ∧ Cond.isRef (.static Bundle.tN "SUPPRESSED_SENTINEL" Bundle.listD) ∈ flatC (Jvm.Cond.and given_1 narrow_1) := by decide +kernel
theorem zs_l : Cond.laysStatic Bundle.tN "UNASSIGNED_STACK" Bundle.steD ∈ lw_tbl ∧ Cond.laysStatic Bundle.tN "SUPPRESSED_SENTINEL" Bundle.listD ∈ lw_tbl ∧ Cond.initialized Bundle.tN ∈ lw_tbl := by decide +kernel
theorem zs_a : Cond.arrayClass .int ∈ lw_tbl ∧ Cond.arrayClass .long ∈ lw_tbl ∧ Cond.arrayOver (.object RX0) ∈ lw_tbl := by decide +kernel
theorem zs_i : Cond.instantiable RX0 6 ∈ lw_tbl ∧ Cond.instantiable RX1 2 ∈ lw_tbl ∧ Cond.instantiable RX2 1 ∈ lw_tbl ∧ Cond.instantiable RX3 2 ∈ lw_tbl ∧ Cond.instantiable RX4 11 ∈ lw_tbl ∧ Cond.instantiable RX5 17 ∈ lw_tbl := by decide +kernel
theorem z_facts {s : State} {b : Nat} (hts : ∀ w ∈ lw_tbl, w.before #[Value.ref b] s = true) (hgv : (Jvm.Cond.and given_1 narrow_1).before #[Value.ref b] s = true) : ∃ Z : zT, zX Z s (fun q => s.heap.size ≤ q) := by
  have hf := flat_of_before _ hgv
  obtain ⟨c0, i0, k0⟩ := u_known (C := RX0) (T := TX0) (N := 6) (n := 6) hts inX0 (hts _ zs_i.1)
  obtain ⟨c1, i1, k1⟩ := u_known (C := RX1) (T := TX1) (N := 2) (n := 2) hts inX1 (hts _ zs_i.2.1)
  obtain ⟨c2, i2, k2⟩ := u_known (C := RX2) (T := TX2) (N := 1) (n := 1) hts inX2 (hts _ zs_i.2.2.1)
  obtain ⟨c3, i3, k3⟩ := u_known (C := RX3) (T := TX3) (N := 2) (n := 2) hts inX3 (hts _ zs_i.2.2.2.1)
  obtain ⟨c4, i4, k4⟩ := u_known (C := RX4) (T := TX4) (N := 11) (n := 11) hts inX4 (hts _ zs_i.2.2.2.2.1)
  obtain ⟨c5, i5, k5⟩ := u_known (C := RX5) (T := TX5) (N := 17) (n := 17) hts inX5 (hts _ zs_i.2.2.2.2.2)
  obtain ⟨dC, dI, hKc⟩ : ∃ (dC : Nat → ClassId) (dI : Nat → Nat → Nat), ∀ (k : Nat) (q : vw_C), vwCl[k]? = some q → u_Kn s q.1 q.2.1 q.2.2 (dC k) (dI k) := by
    refine ⟨fun k => if k = 0 then c0 else if k = 1 then c1 else if k = 2 then c2 else if k = 3 then c3 else if k = 4 then c4 else c5, fun k => if k = 0 then i0 else if k = 1 then i1 else if k = 2 then i2 else if k = 3 then i3 else if k = 4 then i4 else i5, ?_⟩
    intro k q hq
    match k, hq with
    | 0, hq => cases hq; exact k0
    | 1, hq => cases hq; exact k1
    | 2, hq => cases hq; exact k2
    | 3, hq => cases hq; exact k3
    | 4, hq => cases hq; exact k4
    | 5, hq => cases hq; exact k5
    | k + 6, hq => simp [vwCl] at hq
  obtain ⟨cI, kI, pI, a1, a2, a3⟩ := Cond.arrayClass_spec (args := #[Value.ref b]) (first := s) (s := s) (o := none) (idx := []) (type := .int) (hts _ zs_a.1)
  obtain ⟨cL, kL, pL, b1, b2, b3⟩ := Cond.arrayClass_spec (args := #[Value.ref b]) (first := s) (s := s) (o := none) (idx := []) (type := .long) (hts _ zs_a.2.1)
  obtain ⟨pP, cP, kP, d1, d2, d3, d4, d5⟩ := Cond.arrayOver_spec (args := #[Value.ref b]) (first := s) (s := s) (o := none) (idx := []) (n := RX0) (hts _ zs_a.2.2)
  refine ⟨((dC, dI), cI, cP, cL, s.heap.size), ⟨⟨hKc, ?_⟩, fun w hw => va_Nw.of (zns_on w hw) (hts w (zns_in w hw)), fun q hq => ?_, fun q hq => va_Nc.of (hf _ (znc_in q hq)), va_AO.of (hts _ zs_a.2.2)⟩, ⟨?_, ?_⟩, fun q h => h, fun q h => h, Nat.le_refl _⟩
  · intro k q hq
    match k, hq with
    | 0, hq => cases hq; exact ⟨fun n z => ⟨fun k h => (by cases h), kI, a2, pI, a3⟩, a1⟩
    | 1, hq => cases hq; exact ⟨fun n z => ⟨fun k h => (by cases h), kP, d3, pP, d4⟩, kP, pP, d3, d4, d1, d5⟩
    | 2, hq => cases hq; exact ⟨fun n z => ⟨fun k h => (by cases h), kL, b2, pL, b3⟩, b1⟩
    | k + 3, hq => simp [zty] at hq
  · obtain ⟨a, c, cell, k, q1, q2⟩ := Cond.exactly_spec (args := #[Value.ref b]) (first := s) (o := none) (s := s) (idx := []) (t := .string RX4 q.1) (cls := "java/lang/String") (hf _ (zst_ex q hq))
    exact ⟨a, vk_R.of (hts _ (zst_ref q hq)) q1⟩
  · exact vx_Zqof (hts _ zs_l.1) (hts _ zs_l.2.2) (hf _ zs_u.1) (fun a h => Nat.not_le.mpr h)
  · exact vx_Zqof (hts _ zs_l.2.1) (hts _ zs_l.2.2) (hf _ zs_u.2) (fun a h => Nat.not_le.mpr h)
theorem tt_0 : ∀ n, tt (fun _ => 0) n = 0
  | 0 => rfl
  | n + 1 => by
    show tt (fun _ => 0) n + sn 0 = 0
    rw [tt_0 n]
    decide
theorem Gd_0 : Gd (fun _ => 0) := ⟨fun _ => Int32.le_refl 0, fun _ _ => rfl⟩
theorem gi_0 : GI 0 (fun _ => 0) (fun _ _ => 0) (fun _ _ => 0) 0 (fun _ _ => 0) := by
  refine ⟨Gd_0, fun _ => Gd_0, fun _ => Gd_0, ?_, fun k _ => ⟨rfl, rfl, fun _ => rfl⟩⟩
  show tS (fun _ => 0) (fun _ _ => 0) (fun _ _ => 0) ≤ 0
  unfold tS tP
  rw [tt_0]
  exact Nat.le_refl _
theorem stF_0 : stF (fun _ => 0) (fun _ _ => 0) (fun _ _ => 0) = fun _ => 0 := by
  funext q
  simp only [stF]
  split
  · rfl
  · split <;> rfl
theorem pav_0 (ad : Nat → Nat → Nat) : pav ad 0 = fun _ => none := by
  funext i
  exact pav_n (by omega)
theorem z_newl {p : Program} {l : Launch} {e : Env} {R : Room} {s : State} {m : MethodId} {args : Array Value} {below : List Frame} {meth : Method} {c : Code} {H : Heap} {locs : List Loc} {cells slots : Nat} {Q : State → Prop} {cc : ByteArray} {pc : Nat} {ls : Array Slot} {rest : List Value} {Z : zT} {A : Nat → Prop} {ws : va_W}
    (hx : p.tables.exec = Jvm.exec) (hb : c.code = cc) {Ts : List Cond} (hts : ∀ w ∈ Ts, w.before args s = true) (harr : Cond.arrayClass .long ∈ Ts) (X : zX Z s A) (h : zW Z s A ws H locs) {n : Nat} (hn : n < 100000) (hcells : cells + 1 ≤ R.cells) (hslots : slots + n ≤ R.slots) (hdg : decode cc pc = .ok (.newarray .long, 2))
    (kk : ∀ (q : Nat) (H1 : Heap), zW Z s A (ws ++ [(q, zL Z n (fun _ => 0))]) H1 locs → W p l e R s m args below meth c H1 locs (cells + 1) (slots + n) Q (F0 m (pc + 2) ls (.ref q :: rest))) : W p l e R s m args below meth c H locs cells slots Q (F0 m pc ls (.int (nI n) :: rest)) := by
  refine va_newa (atype := .long) (ty := .long) hx hb (hts _ harr) rfl X.1.1 h.1 h.2.1 h.2.2 X.2.2.2.1 (N' := n) (a0 := (n, .inr (.inl (fun _ => 0)))) (fun _ => rfl) (nI_pos (by omega)) (nI_clamp (by omega)) (by show n * 8 ≤ _; omega) hcells hslots hdg (fun q cA H1 gK g1 g2 g3 => ?_)
  have e1 := (gK.2 3 (cA, .long) rfl).2
  have e2 := (X.1.1.2 2 (Z.2.2.2.1, .long) rfl).2
  have e3 : cA = Z.2.2.2.1 := Option.some.inj ((show _ = some cA from e1).symm.trans e2)
  subst e3
  exact kk q H1 ⟨g1, g2, g3⟩
theorem lw_code1430 : decode code 1430 = .ok (.ireturn, 1) := dL_law_1430
theorem law_fl {l : Launch} (h : l.flags = flags0) : l.stackTraces = false := by
  unfold Launch.stackTraces
  rw [h]
  decide +kernel
