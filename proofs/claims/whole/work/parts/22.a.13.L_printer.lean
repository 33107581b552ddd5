theorem mw_L_printer_0 : Cond.classLink RL 13 zE1 ∈ wsL_printer := by decide +kernel
abbrev wp_L_printer (Z : zT) (ou : Nat) : (Nat → Int64) × va_W → va_W := fun u => (ou, zL Z 1 u.1) :: u.2
abbrev po_L_printer (Z : zT) (x st sb pa sp spb se sl sk np : Nat) (S : Nat → Int32) (dy me co ca br ml fp : Int32) (L lf tk : Nat → Int32) (ad : Nat → Nat → Nat) (F G pn : Nat → Nat → Int32) (pv qv : Int32) (ou : Nat) (ov : Nat → Int64) : Int32 → (Nat → Int64) × va_W → Prop := fun r u => (r = nI 0 ∧ 0 = cdx (¬ (isP pv np ∧ (sn qv < 7 ∧ qv = nI (sn qv)))) (False) (False) ∧ u.1 0 = (nmb (F (sn pv)) (G (sn pv)) (q4 (pn (sn pv) 0) (pn (sn pv) 1) (pn (sn pv) 2) (pn (sn pv) 3)) (sn qv)).toInt64 ∧ ∃ u4, u.2 = wp_X4_printer Z x st sb pa sp spb se sl sk np S dy me co ca br ml fp L lf tk ad F G pn pv qv u4) ∨ (∃ k9, 1 ≤ k9 ∧ k9 = cdx (¬ (isP pv np ∧ (sn qv < 7 ∧ qv = nI (sn qv)))) (False) (False) ∧ r = nI k9 ∧ ∃ u4, u.2 = wx_X4_printer Z x st sb pa sp spb se sl sk np S dy me co ca br ml fp L lf tk ad F G pn pv qv u4)
abbrev rm_L_printer : Room := { frames := 8, cells := 5, slots := 30, locals := 127 }
set_option maxHeartbeats 4000000 in
set_option maxRecDepth 100000 in
theorem c_L_printer (l : Launch) (Z : zT) (x st sb pa sp spb se sl sk np : Nat) (S : Nat → Int32) (dy me co ca br ml fp : Int32) (L lf tk : Nat → Int32) (ad : Nat → Nat → Nat) (F G pn : Nat → Nat → Int32) (pv qv : Int32) (ou : Nat) (ov : Nat → Int64) (hfl : l.stackTraces = false) (hnp : np ≤ 6) : zMet l yL_printer wsL_printer rm_L_printer [.ref x, .int pv, .int qv, .ref ou] Z ((ou, zL Z 1 ov) :: ((x, .inr (4, [.ref st, .ref pa, .int (nI np), .int dy, .int me, .int co, .int ca, .int br, .int ml, .ref sp, .ref se])) :: (st, .inr (2, [.ref sb])) :: (sb, zI Z 290 S) :: (pa, zQ Z 6 (pav ad np)) :: (sp, .inr (3, [.ref spb, .int fp])) :: (spb, zI Z 6 L) :: (se, .inr (1, [.ref sl, .ref sk])) :: (sl, zI Z 29 lf) :: (sk, zI Z 29 tk) :: zpool np (pcs Z ad F G pn))) (zQi Z (po_L_printer Z x st sb pa sp spb se sl sk np S dy me co ca br ml fp L lf tk ad F G pn pv qv ou ov) (wp_L_printer Z ou)) 5 30 := by
  refine zhstart (cc := cL_printer) (maxL := 5) (ret := some .int) (hh := [(0, 10, 13, 13)]) (by decide) rfl (Nat.le_of_ble_eq_true rfl) ?_
  intro p e s m below meth c ls A hx hb hr hC hlk htab hX hW hl
  have hml := hC.2.2.1
  have hown : s.vm.findClass RL = some m.cls := hC.2.2.2.1
  have hts := hC.2.2.2.2
  have hl : lv_has ls 5 [(0, .ref x), (1, .int pv), (2, .int qv), (3, .ref ou)] := hl
  refine lv_aload_n hx hb dL_printer_0 rfl (lv_at hl 3 rfl) ?_
  refine lv_iconst (v := nI 0) hx hb dL_printer_1 (by decide) ?_
  refine lv_aload_n hx hb dL_printer_2 rfl (lv_at hl 0 rfl) ?_
  refine lv_iload_n hx hb dL_printer_3 rfl (lv_at hl 1 rfl) ?_
  refine lv_iload_n hx hb dL_printer_4 rfl (lv_at hl 2 rfl) ?_
  refine zhA_i (wr := [(ou, zL Z 1 ov)]) (vx_runV (As := [.int pv, .int qv]) (rest := [.int (nI 0), .ref ou]) hC (c_X4_printer l Z x st sb pa sp spb se sl sk np S dy me co ca br ml fp L lf tk ad F G pn pv qv hfl hnp _) (cwV 2 hts gL_printer_X4_printer rfl rfl rfl (by decide +kernel) ⟨Nat.le_of_ble_eq_true rfl, Nat.le_of_ble_eq_true rfl⟩) (zpreVA (wr := [(ou, zL Z 1 ov)]) (ci := 4) (q0 := 0) hX hW rfl rfl) rfl rfl hl.1 rfl (lv_room (Nat.le_of_ble_eq_true rfl)) dL_printer_5 ⟨Nat.le_of_ble_eq_true rfl, Nat.le_of_ble_eq_true rfl⟩) hX hW (fun ce q9 k8 u9 H locs h9 hW hce hcv hcl => ?_) (fun r u9 H locs h9 hW => ?_)
  · obtain ⟨hk1, hk2⟩ : 1 ≤ k8 ∧ k8 = cdx (¬ (isP pv np ∧ (sn qv < 7 ∧ qv = nI (sn qv)))) (False) (False) := h9
    have hk3 : k8 ≤ 3 := by rw [hk2]; exact cdx_le _ _ _
    have hn2 : k8 ≠ 2 := by rw [hk2]; exact cdx_n2 (fun h6 => h6)
    have hn3 : k8 ≠ 3 := by rw [hk2]; exact cdx_n3 (fun h6 => h6)
    rcases (show k8 = 1 by omega) with rfl
    · refine vx_catch (E := zE1) (name := zE1) hown [] ⟨0, 10, 13, 13⟩ [] (by rw [htab]; rfl) ?_ (by decide) (by decide) (hts _ mw_L_printer_0) (zcas zcs1 hX) hce hcv hcl ?_
      · exact fun z hz => absurd hz List.not_mem_nil
      · refine lv_astore (lv' := [(4, .ref q9), (0, .ref x), (1, .int pv), (2, .int qv), (3, .ref ou)]) hx hb dL_printer_13 hl (by decide) rfl (fun ls hl => ?_)
        refine lv_iconst (v := nI 1) hx hb dL_printer_15 (by decide) ?_
        exact z_iret hx hb hr hlk hW (ov, wx_X4_printer Z x st sb pa sp spb se sl sk np S dy me co ca br ml fp L lf tk ad F G pn pv qv u9) (by unfold po_L_printer; exact Or.inr ⟨1, by omega, hk2, rfl, u9, rfl⟩) rfl (Nat.le_of_ble_eq_true rfl) (Nat.le_of_ble_eq_true rfl) dL_printer_16
  · obtain ⟨hz, hr9⟩ : 0 = cdx (¬ (isP pv np ∧ (sn qv < 7 ∧ qv = nI (sn qv)))) (False) (False) ∧ r = nmb (F (sn pv)) (G (sn pv)) (q4 (pn (sn pv) 0) (pn (sn pv) 1) (pn (sn pv) 2) (pn (sn pv) 3)) (sn qv) := (by exact h9)
    refine lv_i2l (v := r.toInt64) hx hb dL_printer_8 rfl ?_
    refine z_last hx hb hX hW 0 rfl (k := 0) (by omega) (by omega) dL_printer_9 (fun H locs hW => ?_)
    refine lv_goto (tgt := 17) hx hb dL_printer_10 (by decide) ?_
    refine lv_iconst (v := nI 0) hx hb dL_printer_17 (by decide) ?_
    exact z_iret hx hb hr hlk hW (vp_updL ov 0 r.toInt64, wp_X4_printer Z x st sb pa sp spb se sl sk np S dy me co ca br ml fp L lf tk ad F G pn pv qv u9) (by unfold po_L_printer; exact Or.inl ⟨rfl, hz, by rw [hr9]; rfl, u9, rfl⟩) rfl (Nat.le_of_ble_eq_true rfl) (Nat.le_of_ble_eq_true rfl) dL_printer_18
