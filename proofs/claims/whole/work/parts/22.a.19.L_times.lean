theorem mw_L_times_0 : Cond.classLink RL 13 zE1 ∈ wsL_times := by decide +kernel
theorem mw_L_times_1 : Cond.classLink RL 15 zE2 ∈ wsL_times := by decide +kernel
abbrev wp_L_times (Z : zT) (ou : Nat) : (Nat → Int64) × va_W → va_W := fun u => (ou, zL Z 1 u.1) :: u.2
abbrev po_L_times (Z : zT) (x st sb pa sp spb se sl sk np : Nat) (S : Nat → Int32) (dy me co ca br ml fp : Int32) (L lf tk : Nat → Int32) (ad : Nat → Nat → Nat) (F G pn : Nat → Nat → Int32) (pv wv : Int32) (ou : Nat) (ov : Nat → Int64) : Int32 → (Nat → Int64) × va_W → Prop := fun r u => (r = nI 0 ∧ 0 = cdx (¬ isP pv np) (¬ isW wv) (False) ∧ u.1 0 = (lt1 (wla wv) (wkk wv) 1000 0 (lk (F (sn pv)))).toInt64 ∧ ∃ u4, u.2 = wp_X4_times Z x st sb pa sp spb se sl sk np S dy me co ca br ml fp L lf tk ad F G pn pv wv u4) ∨ (∃ k9, 1 ≤ k9 ∧ k9 = cdx (¬ isP pv np) (¬ isW wv) (False) ∧ r = nI k9 ∧ ∃ u4, u.2 = wx_X4_times Z x st sb pa sp spb se sl sk np S dy me co ca br ml fp L lf tk ad F G pn pv wv u4)
abbrev rm_L_times : Room := { frames := 8, cells := 5, slots := 30, locals := 136 }
set_option maxHeartbeats 4000000 in
set_option maxRecDepth 100000 in
theorem c_L_times (l : Launch) (Z : zT) (x st sb pa sp spb se sl sk np : Nat) (S : Nat → Int32) (dy me co ca br ml fp : Int32) (L lf tk : Nat → Int32) (ad : Nat → Nat → Nat) (F G pn : Nat → Nat → Int32) (pv wv : Int32) (ou : Nat) (ov : Nat → Int64) (hfl : l.stackTraces = false) (hnp : np ≤ 6) : zMet l yL_times wsL_times rm_L_times [.ref x, .int pv, .int wv, .ref ou] Z ((ou, zL Z 1 ov) :: ((x, .inr (4, [.ref st, .ref pa, .int (nI np), .int dy, .int me, .int co, .int ca, .int br, .int ml, .ref sp, .ref se])) :: (st, .inr (2, [.ref sb])) :: (sb, zI Z 290 S) :: (pa, zQ Z 6 (pav ad np)) :: (sp, .inr (3, [.ref spb, .int fp])) :: (spb, zI Z 6 L) :: (se, .inr (1, [.ref sl, .ref sk])) :: (sl, zI Z 29 lf) :: (sk, zI Z 29 tk) :: zpool np (pcs Z ad F G pn))) (zQi Z (po_L_times Z x st sb pa sp spb se sl sk np S dy me co ca br ml fp L lf tk ad F G pn pv wv ou ov) (wp_L_times Z ou)) 5 30 := by
  refine zhstart (cc := cL_times) (maxL := 5) (ret := some .int) (hh := [(0, 10, 13, 13), (0, 10, 17, 15)]) (by decide) rfl (Nat.le_of_ble_eq_true rfl) ?_
  intro p e s m below meth c ls A hx hb hr hC hlk htab hX hW hl
  have hml := hC.2.2.1
  have hown : s.vm.findClass RL = some m.cls := hC.2.2.2.1
  have hts := hC.2.2.2.2
  have hl : lv_has ls 5 [(0, .ref x), (1, .int pv), (2, .int wv), (3, .ref ou)] := hl
  refine lv_aload_n hx hb dL_times_0 rfl (lv_at hl 3 rfl) ?_
  refine lv_iconst (v := nI 0) hx hb dL_times_1 (by decide) ?_
  refine lv_aload_n hx hb dL_times_2 rfl (lv_at hl 0 rfl) ?_
  refine lv_iload_n hx hb dL_times_3 rfl (lv_at hl 1 rfl) ?_
  refine lv_iload_n hx hb dL_times_4 rfl (lv_at hl 2 rfl) ?_
  refine zhA_i (wr := [(ou, zL Z 1 ov)]) (vx_runV (As := [.int pv, .int wv]) (rest := [.int (nI 0), .ref ou]) hC (c_X4_times l Z x st sb pa sp spb se sl sk np S dy me co ca br ml fp L lf tk ad F G pn pv wv hfl hnp _) (cwV 2 hts gL_times_X4_times rfl rfl rfl (by decide +kernel) ⟨Nat.le_of_ble_eq_true rfl, Nat.le_of_ble_eq_true rfl⟩) (zpreVA (wr := [(ou, zL Z 1 ov)]) (ci := 4) (q0 := 0) hX hW rfl rfl) rfl rfl hl.1 rfl (lv_room (Nat.le_of_ble_eq_true rfl)) dL_times_5 ⟨Nat.le_of_ble_eq_true rfl, Nat.le_of_ble_eq_true rfl⟩) hX hW (fun ce q9 k8 u9 H locs h9 hW hce hcv hcl => ?_) (fun r u9 H locs h9 hW => ?_)
  · obtain ⟨hk1, hk2⟩ : 1 ≤ k8 ∧ k8 = cdx (¬ isP pv np) (¬ isW wv) (False) := h9
    have hk3 : k8 ≤ 3 := by rw [hk2]; exact cdx_le _ _ _
    have hn3 : k8 ≠ 3 := by rw [hk2]; exact cdx_n3 (fun h6 => h6)
    rcases (show k8 = 1 ∨ k8 = 2 by omega) with rfl | rfl
    · refine vx_catch (E := zE1) (name := zE1) hown [] ⟨0, 10, 13, 13⟩ [⟨0, 10, 17, 15⟩] (by rw [htab]; rfl) ?_ (by decide) (by decide) (hts _ mw_L_times_0) (zcas zcs1 hX) hce hcv hcl ?_
      · exact fun z hz => absurd hz List.not_mem_nil
      · refine lv_astore (lv' := [(4, .ref q9), (0, .ref x), (1, .int pv), (2, .int wv), (3, .ref ou)]) hx hb dL_times_13 hl (by decide) rfl (fun ls hl => ?_)
        refine lv_iconst (v := nI 1) hx hb dL_times_15 (by decide) ?_
        exact z_iret hx hb hr hlk hW (ov, wx_X4_times Z x st sb pa sp spb se sl sk np S dy me co ca br ml fp L lf tk ad F G pn pv wv u9) (by unfold po_L_times; exact Or.inr ⟨1, by omega, hk2, rfl, u9, rfl⟩) rfl (Nat.le_of_ble_eq_true rfl) (Nat.le_of_ble_eq_true rfl) dL_times_16
    · refine vx_catch (E := zE2) (name := zE2) hown [⟨0, 10, 13, 13⟩] ⟨0, 10, 17, 15⟩ [] (by rw [htab]; rfl) ?_ (by decide) (by decide) (hts _ mw_L_times_1) (zcas zcs2 hX) hce hcv hcl ?_
      · intro z hz
        simp only [List.mem_cons, List.not_mem_nil, or_false] at hz
        rcases hz with rfl
        · exact Or.inr ⟨by decide, zE1, hts _ mw_L_times_0, znc (by decide +kernel) hX⟩
      · refine lv_astore (lv' := [(4, .ref q9), (0, .ref x), (1, .int pv), (2, .int wv), (3, .ref ou)]) hx hb dL_times_17 hl (by decide) rfl (fun ls hl => ?_)
        refine lv_iconst (v := nI 2) hx hb dL_times_19 (by decide) ?_
        exact z_iret hx hb hr hlk hW (ov, wx_X4_times Z x st sb pa sp spb se sl sk np S dy me co ca br ml fp L lf tk ad F G pn pv wv u9) (by unfold po_L_times; exact Or.inr ⟨2, by omega, hk2, rfl, u9, rfl⟩) rfl (Nat.le_of_ble_eq_true rfl) (Nat.le_of_ble_eq_true rfl) dL_times_20
  · obtain ⟨hz, hr9⟩ : 0 = cdx (¬ isP pv np) (¬ isW wv) (False) ∧ r = lt1 (wla wv) (wkk wv) 1000 0 (lk (F (sn pv))) := (by exact h9)
    refine lv_i2l (v := r.toInt64) hx hb dL_times_8 rfl ?_
    refine z_last hx hb hX hW 0 rfl (k := 0) (by omega) (by omega) dL_times_9 (fun H locs hW => ?_)
    refine lv_goto (tgt := 21) hx hb dL_times_10 (by decide) ?_
    refine lv_iconst (v := nI 0) hx hb dL_times_21 (by decide) ?_
    exact z_iret hx hb hr hlk hW (vp_updL ov 0 r.toInt64, wp_X4_times Z x st sb pa sp spb se sl sk np S dy me co ca br ml fp L lf tk ad F G pn pv wv u9) (by unfold po_L_times; exact Or.inl ⟨rfl, hz, by rw [hr9]; rfl, u9, rfl⟩) rfl (Nat.le_of_ble_eq_true rfl) (Nat.le_of_ble_eq_true rfl) dL_times_22
