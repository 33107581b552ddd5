theorem mw_L_pass_0 : Cond.classLink RL 15 zE2 ∈ wsL_pass := by decide +kernel
abbrev wp_L_pass (Z : zT) (ou : Nat) : (Nat → Int64) × va_W → va_W := fun u => (ou, zL Z 1 u.1) :: u.2
abbrev po_L_pass (Z : zT) (x st sb pa sp spb se sl sk np : Nat) (S : Nat → Int32) (dy me co ca br ml fp : Int32) (L lf tk : Nat → Int32) (ad : Nat → Nat → Nat) (F G pn : Nat → Nat → Int32) (dv : Int32) (ou : Nat) (ov : Nat → Int64) : Int32 → (Nat → Int64) × va_W → Prop := fun r u => (r = nI 0 ∧ 0 = cdx (¬ inR dv 1 100) (False) (False) ∧ u.1 0 = ((psS dv F G pn np).2).toInt64 ∧ ∃ u4, u.2 = wp_X4_pass Z x st sb pa sp spb se sl sk np S dy me co ca br ml fp L lf tk ad F G pn dv u4) ∨ (∃ k9, 1 ≤ k9 ∧ k9 = cdx (¬ inR dv 1 100) (False) (False) ∧ r = nI k9 ∧ ∃ u4, u.2 = wx_X4_pass Z x st sb pa sp spb se sl sk np S dy me co ca br ml fp L lf tk ad F G pn dv u4)
abbrev rm_L_pass : Room := { frames := 7, cells := 5, slots := 30, locals := 106 }
set_option maxHeartbeats 4000000 in
set_option maxRecDepth 100000 in
theorem c_L_pass (l : Launch) (Z : zT) (x st sb pa sp spb se sl sk np : Nat) (S : Nat → Int32) (dy me co ca br ml fp : Int32) (L lf tk : Nat → Int32) (ad : Nat → Nat → Nat) (F G pn : Nat → Nat → Int32) (dv : Int32) (ou : Nat) (ov : Nat → Int64) (hfl : l.stackTraces = false) (hnp : np ≤ 6) : zMet l yL_pass wsL_pass rm_L_pass [.ref x, .int dv, .ref ou] Z ((ou, zL Z 1 ov) :: ((x, .inr (4, [.ref st, .ref pa, .int (nI np), .int dy, .int me, .int co, .int ca, .int br, .int ml, .ref sp, .ref se])) :: (st, .inr (2, [.ref sb])) :: (sb, zI Z 290 S) :: (pa, zQ Z 6 (pav ad np)) :: (sp, .inr (3, [.ref spb, .int fp])) :: (spb, zI Z 6 L) :: (se, .inr (1, [.ref sl, .ref sk])) :: (sl, zI Z 29 lf) :: (sk, zI Z 29 tk) :: zpool np (pcs Z ad F G pn))) (zQi Z (po_L_pass Z x st sb pa sp spb se sl sk np S dy me co ca br ml fp L lf tk ad F G pn dv ou ov) (wp_L_pass Z ou)) 5 30 := by
  refine zhstart (cc := cL_pass) (maxL := 4) (ret := some .int) (hh := [(0, 9, 12, 15)]) (by decide) rfl (Nat.le_of_ble_eq_true rfl) ?_
  intro p e s m below meth c ls A hx hb hr hC hlk htab hX hW hl
  have hml := hC.2.2.1
  have hown : s.vm.findClass RL = some m.cls := hC.2.2.2.1
  have hts := hC.2.2.2.2
  have hl : lv_has ls 4 [(0, .ref x), (1, .int dv), (2, .ref ou)] := hl
  refine lv_aload_n hx hb dL_pass_0 rfl (lv_at hl 2 rfl) ?_
  refine lv_iconst (v := nI 0) hx hb dL_pass_1 (by decide) ?_
  refine lv_aload_n hx hb dL_pass_2 rfl (lv_at hl 0 rfl) ?_
  refine lv_iload_n hx hb dL_pass_3 rfl (lv_at hl 1 rfl) ?_
  refine zhA_i (wr := [(ou, zL Z 1 ov)]) (vx_runV (As := [.int dv]) (rest := [.int (nI 0), .ref ou]) hC (c_X4_pass l Z x st sb pa sp spb se sl sk np S dy me co ca br ml fp L lf tk ad F G pn dv hfl hnp _) (cwV 1 hts gL_pass_X4_pass rfl rfl rfl (by decide +kernel) ⟨Nat.le_of_ble_eq_true rfl, Nat.le_of_ble_eq_true rfl⟩) (zpreVA (wr := [(ou, zL Z 1 ov)]) (ci := 4) (q0 := 0) hX hW rfl rfl) rfl rfl hl.1 rfl (lv_room (Nat.le_of_ble_eq_true rfl)) dL_pass_4 ⟨Nat.le_of_ble_eq_true rfl, Nat.le_of_ble_eq_true rfl⟩) hX hW (fun ce q9 k8 u9 H locs h9 hW hce hcv hcl => ?_) (fun r u9 H locs h9 hW => ?_)
  · obtain ⟨hk1, hk2⟩ : 1 ≤ k8 ∧ k8 = cdx (False) (¬ inR dv 1 100) (False) := h9
    have hk3 : k8 ≤ 3 := by rw [hk2]; exact cdx_le _ _ _
    have hn1 : k8 ≠ 1 := by rw [hk2]; exact cdx_n1 (fun h6 => h6)
    have hn3 : k8 ≠ 3 := by rw [hk2]; exact cdx_n3 (fun h6 => h6)
    rcases (show k8 = 2 by omega) with rfl
    · refine vx_catch (E := zE2) (name := zE2) hown [] ⟨0, 9, 12, 15⟩ [] (by rw [htab]; rfl) ?_ (by decide) (by decide) (hts _ mw_L_pass_0) (zcas zcs2 hX) hce hcv hcl ?_
      · exact fun z hz => absurd hz List.not_mem_nil
      · refine lv_astore_n (lv' := [(3, .ref q9), (0, .ref x), (1, .int dv), (2, .ref ou)]) hx hb dL_pass_12 rfl hl (by decide) rfl (fun ls hl => ?_)
        refine lv_iconst (v := nI 1) hx hb dL_pass_13 (by decide) ?_
        exact z_iret hx hb hr hlk hW (ov, wx_X4_pass Z x st sb pa sp spb se sl sk np S dy me co ca br ml fp L lf tk ad F G pn dv u9) (by unfold po_L_pass; exact Or.inr ⟨1, by omega, (cdx_shk (by omega) hk2).1, rfl, u9, rfl⟩) rfl (Nat.le_of_ble_eq_true rfl) (Nat.le_of_ble_eq_true rfl) dL_pass_14
  · obtain ⟨hz, hr9⟩ : 0 = cdx (False) (¬ inR dv 1 100) (False) ∧ r = (psS dv F G pn np).2 := (by exact h9)
    refine lv_i2l (v := r.toInt64) hx hb dL_pass_7 rfl ?_
    refine z_last hx hb hX hW 0 rfl (k := 0) (by omega) (by omega) dL_pass_8 (fun H locs hW => ?_)
    refine lv_goto (tgt := 15) hx hb dL_pass_9 (by decide) ?_
    refine lv_iconst (v := nI 0) hx hb dL_pass_15 (by decide) ?_
    exact z_iret hx hb hr hlk hW (vp_updL ov 0 r.toInt64, wp_X4_pass Z x st sb pa sp spb se sl sk np S dy me co ca br ml fp L lf tk ad F G pn dv u9) (by unfold po_L_pass; exact Or.inl ⟨rfl, cdx_sh0 hz, by rw [hr9]; rfl, u9, rfl⟩) rfl (Nat.le_of_ble_eq_true rfl) (Nat.le_of_ble_eq_true rfl) dL_pass_16
