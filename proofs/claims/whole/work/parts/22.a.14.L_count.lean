theorem mw_L_count_0 : Cond.classLink RL 13 zE1 ∈ wsL_count := by decide +kernel
abbrev wp_L_count (Z : zT) (ou : Nat) : (Nat → Int64) × va_W → va_W := fun u => (ou, zL Z 1 u.1) :: u.2
abbrev po_L_count (Z : zT) (x st sb pa sp spb se sl sk np : Nat) (S : Nat → Int32) (dy me co ca br ml fp : Int32) (L lf tk : Nat → Int32) (ad : Nat → Nat → Nat) (F G pn : Nat → Nat → Int32) (qv : Int32) (ou : Nat) (ov : Nat → Int64) : Int32 → (Nat → Int64) × va_W → Prop := fun r u => (r = nI 0 ∧ 0 = cdx (¬ (sn qv < 8 ∧ qv = nI (sn qv))) (False) (False) ∧ u.1 0 = (cnt dy me co S np ca br ml (sn qv)).toInt64 ∧ ∃ u4, u.2 = wp_X4_count Z x st sb pa sp spb se sl sk np S dy me co ca br ml fp L lf tk ad F G pn qv u4) ∨ (∃ k9, 1 ≤ k9 ∧ k9 = cdx (¬ (sn qv < 8 ∧ qv = nI (sn qv))) (False) (False) ∧ r = nI k9 ∧ ∃ u4, u.2 = wx_X4_count Z x st sb pa sp spb se sl sk np S dy me co ca br ml fp L lf tk ad F G pn qv u4)
abbrev rm_L_count : Room := { frames := 7, cells := 5, slots := 30, locals := 103 }
set_option maxHeartbeats 4000000 in
set_option maxRecDepth 100000 in
theorem c_L_count (l : Launch) (Z : zT) (x st sb pa sp spb se sl sk np : Nat) (S : Nat → Int32) (dy me co ca br ml fp : Int32) (L lf tk : Nat → Int32) (ad : Nat → Nat → Nat) (F G pn : Nat → Nat → Int32) (qv : Int32) (ou : Nat) (ov : Nat → Int64) (hfl : l.stackTraces = false) (hnp : np ≤ 6) : zMet l yL_count wsL_count rm_L_count [.ref x, .int qv, .ref ou] Z ((ou, zL Z 1 ov) :: ((x, .inr (4, [.ref st, .ref pa, .int (nI np), .int dy, .int me, .int co, .int ca, .int br, .int ml, .ref sp, .ref se])) :: (st, .inr (2, [.ref sb])) :: (sb, zI Z 290 S) :: (pa, zQ Z 6 (pav ad np)) :: (sp, .inr (3, [.ref spb, .int fp])) :: (spb, zI Z 6 L) :: (se, .inr (1, [.ref sl, .ref sk])) :: (sl, zI Z 29 lf) :: (sk, zI Z 29 tk) :: zpool np (pcs Z ad F G pn))) (zQi Z (po_L_count Z x st sb pa sp spb se sl sk np S dy me co ca br ml fp L lf tk ad F G pn qv ou ov) (wp_L_count Z ou)) 5 30 := by
  refine zhstart (cc := cL_count) (maxL := 4) (ret := some .int) (hh := [(0, 9, 12, 13)]) (by decide) rfl (Nat.le_of_ble_eq_true rfl) ?_
  intro p e s m below meth c ls A hx hb hr hC hlk htab hX hW hl
  have hml := hC.2.2.1
  have hown : s.vm.findClass RL = some m.cls := hC.2.2.2.1
  have hts := hC.2.2.2.2
  have hl : lv_has ls 4 [(0, .ref x), (1, .int qv), (2, .ref ou)] := hl
  refine lv_aload_n hx hb dL_count_0 rfl (lv_at hl 2 rfl) ?_
  refine lv_iconst (v := nI 0) hx hb dL_count_1 (by decide) ?_
  refine lv_aload_n hx hb dL_count_2 rfl (lv_at hl 0 rfl) ?_
  refine lv_iload_n hx hb dL_count_3 rfl (lv_at hl 1 rfl) ?_
  refine zhA_i (wr := [(ou, zL Z 1 ov)]) (vx_runV (As := [.int qv]) (rest := [.int (nI 0), .ref ou]) hC (c_X4_count l Z x st sb pa sp spb se sl sk np S dy me co ca br ml fp L lf tk ad F G pn qv hfl hnp _) (cwV 1 hts gL_count_X4_count rfl rfl rfl (by decide +kernel) ⟨Nat.le_of_ble_eq_true rfl, Nat.le_of_ble_eq_true rfl⟩) (zpreVA (wr := [(ou, zL Z 1 ov)]) (ci := 4) (q0 := 0) hX hW rfl rfl) rfl rfl hl.1 rfl (lv_room (Nat.le_of_ble_eq_true rfl)) dL_count_4 ⟨Nat.le_of_ble_eq_true rfl, Nat.le_of_ble_eq_true rfl⟩) hX hW (fun ce q9 k8 u9 H locs h9 hW hce hcv hcl => ?_) (fun r u9 H locs h9 hW => ?_)
  · obtain ⟨hk1, hk2⟩ : 1 ≤ k8 ∧ k8 = cdx (¬ (sn qv < 8 ∧ qv = nI (sn qv))) (False) (False) := h9
    have hk3 : k8 ≤ 3 := by rw [hk2]; exact cdx_le _ _ _
    have hn2 : k8 ≠ 2 := by rw [hk2]; exact cdx_n2 (fun h6 => h6)
    have hn3 : k8 ≠ 3 := by rw [hk2]; exact cdx_n3 (fun h6 => h6)
    rcases (show k8 = 1 by omega) with rfl
    · refine vx_catch (E := zE1) (name := zE1) hown [] ⟨0, 9, 12, 13⟩ [] (by rw [htab]; rfl) ?_ (by decide) (by decide) (hts _ mw_L_count_0) (zcas zcs1 hX) hce hcv hcl ?_
      · exact fun z hz => absurd hz List.not_mem_nil
      · refine lv_astore_n (lv' := [(3, .ref q9), (0, .ref x), (1, .int qv), (2, .ref ou)]) hx hb dL_count_12 rfl hl (by decide) rfl (fun ls hl => ?_)
        refine lv_iconst (v := nI 1) hx hb dL_count_13 (by decide) ?_
        exact z_iret hx hb hr hlk hW (ov, wx_X4_count Z x st sb pa sp spb se sl sk np S dy me co ca br ml fp L lf tk ad F G pn qv u9) (by unfold po_L_count; exact Or.inr ⟨1, by omega, hk2, rfl, u9, rfl⟩) rfl (Nat.le_of_ble_eq_true rfl) (Nat.le_of_ble_eq_true rfl) dL_count_14
  · obtain ⟨hz, hr9⟩ : 0 = cdx (¬ (sn qv < 8 ∧ qv = nI (sn qv))) (False) (False) ∧ r = cnt dy me co S np ca br ml (sn qv) := (by exact h9)
    refine lv_i2l (v := r.toInt64) hx hb dL_count_7 rfl ?_
    refine z_last hx hb hX hW 0 rfl (k := 0) (by omega) (by omega) dL_count_8 (fun H locs hW => ?_)
    refine lv_goto (tgt := 15) hx hb dL_count_9 (by decide) ?_
    refine lv_iconst (v := nI 0) hx hb dL_count_15 (by decide) ?_
    exact z_iret hx hb hr hlk hW (vp_updL ov 0 r.toInt64, wp_X4_count Z x st sb pa sp spb se sl sk np S dy me co ca br ml fp L lf tk ad F G pn qv u9) (by unfold po_L_count; exact Or.inl ⟨rfl, hz, by rw [hr9]; rfl, u9, rfl⟩) rfl (Nat.le_of_ble_eq_true rfl) (Nat.le_of_ble_eq_true rfl) dL_count_16
