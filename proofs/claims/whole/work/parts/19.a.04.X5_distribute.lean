theorem mw_X5_distribute_0 : Cond.fieldLink RX5 38 "TypeFoundryModel" "thrown" "I" ∈ wsX5_distribute := by decide +kernel
theorem mw_X5_distribute_1 : ∀ w ∈ wsX50, w ∈ wsX5_distribute := by decide +kernel
theorem mw_X5_distribute_2 : Cond.fieldLink RX5 26 "TypeFoundryModel" "words" "[I" ∈ wsX5_distribute := by decide +kernel
theorem mw_X5_distribute_3 : Cond.fieldLink RX5 13 "TypeFoundryModel" "store" "[I" ∈ wsX5_distribute := by decide +kernel
abbrev wp_X5_distribute (Z : zT) (o0 o1 o2 o3 o4 o5 o6 o7 o8 np : Nat) (th dy me co ca br ml le : Int32) (S E Tk Lf : Nat → Int32) (F G pn : Nat → Nat → Int32) (pv : Int32) : Int32 × (Nat → Int32) × (Nat → Int32) × (Nat → Int32) × (Nat → Int32) × (Nat → Int32) → va_W := fun (u : Int32 × (Nat → Int32) × (Nat → Int32) × (Nat → Int32) × (Nat → Int32) × (Nat → Int32)) => match u with | (th_1, f_1, q0_1, q1_1, q2_1, q3_1) => [(o0, .inr (5, [.int th_1, .int dy, .int me, .int co, .int (nI np), .int ca, .int br, .int ml, .ref o1, .ref o2, .ref o3, .ref o4, .ref o5, .ref o6, .int le, .ref o7, .ref o8])), (o1, zI Z 3770 f_1), (o2, zI Z 6 q0_1), (o3, zI Z 6 q1_1), (o4, zI Z 6 q2_1), (o5, zI Z 6 q3_1), (o6, zI Z 6 E), (o7, zI Z 29 Tk), (o8, zI Z 29 Lf)]
abbrev po_X5_distribute (Z : zT) (o0 o1 o2 o3 o4 o5 o6 o7 o8 np : Nat) (th dy me co ca br ml le : Int32) (S E Tk Lf : Nat → Int32) (F G pn : Nat → Nat → Int32) (pv : Int32) : Int32 → Int32 × (Nat → Int32) × (Nat → Int32) × (Nat → Int32) × (Nat → Int32) × (Nat → Int32) → Prop := fun (r : Int32) (u : Int32 × (Nat → Int32) × (Nat → Int32) × (Nat → Int32) × (Nat → Int32) × (Nat → Int32)) => match u with | (th_1, f_1, q0_1, q1_1, q2_1, q3_1) => (th_1 = nI 0 ∧ 0 = cdx (¬ isP pv np) (False) (False) ∧ r = bx_sum (G (sn pv)) 290 ∧ f_1 = stF S (up F (sn pv) (diS (G (sn pv)) (F (sn pv)) 29).2) (up G (sn pv) (diS (G (sn pv)) (F (sn pv)) 29).1) ∧ q0_1 = qF (up pn (sn pv) (q4 (pn (sn pv) 0) (pn (sn pv) 1) (pn (sn pv) 2) (nI 0))) 0 ∧ q1_1 = qF (up pn (sn pv) (q4 (pn (sn pv) 0) (pn (sn pv) 1) (pn (sn pv) 2) (nI 0))) 1 ∧ q2_1 = qF (up pn (sn pv) (q4 (pn (sn pv) 0) (pn (sn pv) 1) (pn (sn pv) 2) (nI 0))) 2 ∧ q3_1 = qF (up pn (sn pv) (q4 (pn (sn pv) 0) (pn (sn pv) 1) (pn (sn pv) 2) (nI 0))) 3) ∨ (∃ k9, 1 ≤ k9 ∧ k9 = cdx (¬ isP pv np) (False) (False) ∧ th_1 = nI k9 ∧ f_1 = stF S F G ∧ q0_1 = qF pn 0 ∧ q1_1 = qF pn 1 ∧ q2_1 = qF pn 2 ∧ q3_1 = qF pn 3)
abbrev rm_X5_distribute : Room := { frames := 2, cells := 0, slots := 0, locals := 43 }
set_option maxHeartbeats 4000000 in
set_option maxRecDepth 100000 in
theorem c_X5_distribute (l : Launch) (Z : zT) (o0 o1 o2 o3 o4 o5 o6 o7 o8 np : Nat) (th dy me co ca br ml le : Int32) (S E Tk Lf : Nat → Int32) (F G pn : Nat → Nat → Int32) (pv : Int32) (hG : GA S F G) (hnp : np ≤ 6) : zMet l yX5_distribute wsX5_distribute rm_X5_distribute [.ref o0, .int pv] Z [(o0, .inr (5, [.int th, .int dy, .int me, .int co, .int (nI np), .int ca, .int br, .int ml, .ref o1, .ref o2, .ref o3, .ref o4, .ref o5, .ref o6, .int le, .ref o7, .ref o8])), (o1, zI Z 3770 (stF S F G)), (o2, zI Z 6 (qF pn 0)), (o3, zI Z 6 (qF pn 1)), (o4, zI Z 6 (qF pn 2)), (o5, zI Z 6 (qF pn 3)), (o6, zI Z 6 E), (o7, zI Z 29 Tk), (o8, zI Z 29 Lf)] (zQi Z (po_X5_distribute Z o0 o1 o2 o3 o4 o5 o6 o7 o8 np th dy me co ca br ml le S E Tk Lf F G pn pv) (wp_X5_distribute Z o0 o1 o2 o3 o4 o5 o6 o7 o8 np th dy me co ca br ml le S E Tk Lf F G pn pv)) 0 0 := by
  refine zstart (cc := cX5_distribute) (maxL := 4) (ret := (some .int)) (by decide) rfl (Nat.le_of_ble_eq_true rfl) ?_
  intro p e s m below meth c ls A hx hb hr hC hlk hnm hX hW hl
  have hml := hC.2.2.1
  have hown : s.vm.findClass RX5 = some m.cls := hC.2.2.2.1
  have hts := hC.2.2.2.2
  have hl : lv_has ls 4 [(0, .ref o0), (1, .int pv)] := hl
  refine lv_aload_n hx hb dX5_distribute_0 rfl (lv_at hl 0 rfl) ?_
  refine lv_iconst (v := nI 0) hx hb dX5_distribute_1 (by decide) ?_
  refine z_put (C := RX5) (T := TX5) (N := 17) (v := .int (nI 0)) (ty := .int) hx hb hts mw_X5_distribute_1 tyX5 tyX5_ok nmX5 hown hX hW 0 rfl rfl 0 (by decide) mw_X5_distribute_0 (fun _ h9 => h9) rfl (by decide +kernel) rfl rfl (Nat.le_of_ble_eq_true rfl) dX5_distribute_2 (fun H locs hW => ?_)
  have hW : zW Z s A [(o0, .inr (5, [.int (nI 0), .int dy, .int me, .int co, .int (nI np), .int ca, .int br, .int ml, .ref o1, .ref o2, .ref o3, .ref o4, .ref o5, .ref o6, .int le, .ref o7, .ref o8])), (o1, zI Z 3770 (stF S F G)), (o2, zI Z 6 (qF pn 0)), (o3, zI Z 6 (qF pn 1)), (o4, zI Z 6 (qF pn 2)), (o5, zI Z 6 (qF pn 3)), (o6, zI Z 6 E), (o7, zI Z 29 Tk), (o8, zI Z 29 Lf)] _ _ := hW
  refine lv_aload_n hx hb dX5_distribute_5 rfl (lv_at hl 0 rfl) ?_
  refine lv_iload_n hx hb dX5_distribute_6 rfl (lv_at hl 1 rfl) ?_
  refine zc_i (va_runV (As := [.int pv]) (rest := []) hC (c_X5_isPrinter l Z o0 o1 o2 o3 o4 o5 o6 o7 o8 np (nI 0) dy me co ca br ml le pv (by omega) _) (cwV 1 hts gX5_distribute_X5_isPrinter rfl rfl rfl (by decide +kernel) ⟨Nat.le_of_ble_eq_true rfl, Nat.le_of_ble_eq_true rfl⟩) (zpreV (ci := 5) (q0 := 0) hX hW rfl rfl [0] rfl (by decide)) rfl rfl hl.1 rfl (lv_room (Nat.le_of_ble_eq_true rfl)) dX5_distribute_7 ⟨Nat.le_of_ble_eq_true rfl, Nat.le_of_ble_eq_true rfl⟩) hX hW [0] rfl (by decide) (fun _ => rfl) (fun r_7 u_7 H locs h_7 hW => ?_)
  have hW : zW Z s A [(o0, .inr (5, [.int (nI 0), .int dy, .int me, .int co, .int (nI np), .int ca, .int br, .int ml, .ref o1, .ref o2, .ref o3, .ref o4, .ref o5, .ref o6, .int le, .ref o7, .ref o8])), (o1, zI Z 3770 (stF S F G)), (o2, zI Z 6 (qF pn 0)), (o3, zI Z 6 (qF pn 1)), (o4, zI Z 6 (qF pn 2)), (o5, zI Z 6 (qF pn 3)), (o6, zI Z 6 E), (o7, zI Z 29 Tk), (o8, zI Z 29 Lf)] _ _ := hW
  subst h_7
  refine lv_if_ne (tgt := 19) hx hb dX5_distribute_10 (by decide) (fun c_10 => ?_) (fun c_10 => ?_)
  · have hP : isP pv np := bI_n c_10
    have hP1 := hP.1
    have hl : lv_has ls 4 [(0, .ref o0), (1, .int (nI (sn pv)))] := by rw [← hP.2]; exact hl
    have hP6 : sn pv < 6 := by omega
    have hb9 : tt (F (sn pv)) 290 + tt (G (sn pv)) 290 < 2 ^ 31 := (by have := hG.2.2.2; have := tP_le (F := F) hP6; have := tP_le (F := G) hP6; unfold tS at *; omega)
    refine lv_aload_n hx hb dX5_distribute_19 rfl (lv_at hl 0 rfl) ?_
    refine lv_iload_n hx hb dX5_distribute_20 rfl (lv_at hl 1 rfl) ?_
    refine zc_i (va_runS (As := [.int (nI (sn pv))]) (rest := [.ref o0]) hC (c_X5_formOf l Z (sn pv)  _) (va_cwS 1 hts gX5_distribute_X5_formOf rfl rfl rfl (by decide +kernel) ⟨Nat.le_of_ble_eq_true rfl, Nat.le_of_ble_eq_true rfl⟩) (zpreS hX hW [] rfl (by decide)) rfl rfl hl.1 rfl (lv_room (Nat.le_of_ble_eq_true rfl)) dX5_distribute_21 ⟨Nat.le_of_ble_eq_true rfl, Nat.le_of_ble_eq_true rfl⟩) hX hW [] rfl (by decide) (fun _ => rfl) (fun r_21 u_21 H locs h_21 hW => ?_)
    have hW : zW Z s A [(o0, .inr (5, [.int (nI 0), .int dy, .int me, .int co, .int (nI np), .int ca, .int br, .int ml, .ref o1, .ref o2, .ref o3, .ref o4, .ref o5, .ref o6, .int le, .ref o7, .ref o8])), (o1, zI Z 3770 (stF S F G)), (o2, zI Z 6 (qF pn 0)), (o3, zI Z 6 (qF pn 1)), (o4, zI Z 6 (qF pn 2)), (o5, zI Z 6 (qF pn 3)), (o6, zI Z 6 E), (o7, zI Z 29 Tk), (o8, zI Z 29 Lf)] _ _ := hW
    subst h_21
    refine zc_i (va_runV (As := [.int (nI (290 * (7 + (sn pv))))]) (rest := []) hC (c_X5_all l Z o0 o1 o2 o3 o4 o5 o6 o7 o8 np (nI 0) dy me co ca br ml le (stF S F G) (290 * (7 + (sn pv))) (by omega) _) (cwV 1 hts gX5_distribute_X5_all rfl rfl rfl (by decide +kernel) ⟨Nat.le_of_ble_eq_true rfl, Nat.le_of_ble_eq_true rfl⟩) (zpreV (ci := 5) (q0 := 0) hX hW rfl rfl [0, 1] rfl (by decide)) rfl rfl hl.1 rfl (lv_room (Nat.le_of_ble_eq_true rfl)) dX5_distribute_24 ⟨Nat.le_of_ble_eq_true rfl, Nat.le_of_ble_eq_true rfl⟩) hX hW [0, 1] rfl (by decide) (fun _ => rfl) (fun r_24 u_24 H locs h_24 hW => ?_)
    have hW : zW Z s A [(o0, .inr (5, [.int (nI 0), .int dy, .int me, .int co, .int (nI np), .int ca, .int br, .int ml, .ref o1, .ref o2, .ref o3, .ref o4, .ref o5, .ref o6, .int le, .ref o7, .ref o8])), (o1, zI Z 3770 (stF S F G)), (o2, zI Z 6 (qF pn 0)), (o3, zI Z 6 (qF pn 1)), (o4, zI Z 6 (qF pn 2)), (o5, zI Z 6 (qF pn 3)), (o6, zI Z 6 E), (o7, zI Z 29 Tk), (o8, zI Z 29 Lf)] _ _ := hW
    subst h_24
    refine zw_topi (y := (bx_sum (G (sn pv)) 290)) (by rw [sh_G hP6 (hG.2.2.1 _)]) ?_
    refine lv_istore_n (lv' := [(2, .int (bx_sum (G (sn pv)) 290)), (0, .ref o0), (1, .int (nI (sn pv)))]) hx hb dX5_distribute_27 rfl hl (by decide) rfl (fun ls hl => ?_)
    refine lv_iconst (v := nI 0) hx hb dX5_distribute_28 (by decide) ?_
    refine lv_istore_n (lv' := [(3, .int (nI 0)), (2, .int (bx_sum (G (sn pv)) 290)), (0, .ref o0), (1, .int (nI (sn pv)))]) hx hb dX5_distribute_29 rfl hl (by decide) rfl (fun ls hl => ?_)
    have loop_30 : ∀ (n : Nat) (j : Nat) (K : Nat → Int32), (j ≤ 290) → (K = dS S F G (sn pv) j) → (290 - j < n) → ∀ (H : Heap) (locs : List Loc) (ls : Array Slot), zW Z s A [(o0, .inr (5, [.int (nI 0), .int dy, .int me, .int co, .int (nI np), .int ca, .int br, .int ml, .ref o1, .ref o2, .ref o3, .ref o4, .ref o5, .ref o6, .int le, .ref o7, .ref o8])), (o1, zI Z 3770 K), (o2, zI Z 6 (qF pn 0)), (o3, zI Z 6 (qF pn 1)), (o4, zI Z 6 (qF pn 2)), (o5, zI Z 6 (qF pn 3)), (o6, zI Z 6 E), (o7, zI Z 29 Tk), (o8, zI Z 29 Lf)] H locs → lv_has ls 4 [(3, .int (nI j)), (2, .int (bx_sum (G (sn pv)) 290)), (0, .ref o0), (1, .int (nI (sn pv)))] → W p l e rm_X5_distribute s m ([.ref o0, .int pv] : List Value).toArray below meth c H locs 0 0 (MQ below (zQi Z (po_X5_distribute Z o0 o1 o2 o3 o4 o5 o6 o7 o8 np th dy me co ca br ml le S E Tk Lf F G pn pv) (wp_X5_distribute Z o0 o1 o2 o3 o4 o5 o6 o7 o8 np th dy me co ca br ml le S E Tk Lf F G pn pv) A) ([.ref o0, .int pv] : List Value).toArray s 0 0 A) (F0 m 30 ls []) := by
      intro n
      induction n with
      | zero =>
        intro j K hj hK hm
        exact absurd hm (Nat.not_lt_zero _)
      | succ n ih =>
        intro j K hj hK hm H locs ls hW hl
        have ih_30 := ih
        refine lv_iload_n hx hb dX5_distribute_30 rfl (lv_at hl 0 rfl) ?_
        refine lv_sipush (v := nI 290) hx hb dX5_distribute_31 (by decide) ?_
        refine zn_icmp_ge (tgt := 80) (a := j) (b := 290) hx hb (by omega) (by omega) dX5_distribute_34 (by decide) (fun c_34 => ?_) (fun c_34 => ?_)
        · refine lv_aload_n hx hb dX5_distribute_80 rfl (lv_at hl 2 rfl) ?_
          refine z_get (C := RX5) (T := TX5) (N := 17) hx hb hts mw_X5_distribute_1 hown hX hW 0 rfl rfl 12 (by decide) mw_X5_distribute_2 (fun _ h9 => h9) rfl dX5_distribute_81 ?_
          refine lv_iload_n hx hb dX5_distribute_84 rfl (lv_at hl 3 rfl) ?_
          refine lv_iconst (v := nI 0) hx hb dX5_distribute_85 (by decide) ?_
          refine z_iast hx hb hX hW 5 rfl (k := (sn pv)) (by omega) (by omega) dX5_distribute_86 (fun H locs hW => ?_)
          have hW : zW Z s A [(o0, .inr (5, [.int (nI 0), .int dy, .int me, .int co, .int (nI np), .int ca, .int br, .int ml, .ref o1, .ref o2, .ref o3, .ref o4, .ref o5, .ref o6, .int le, .ref o7, .ref o8])), (o1, zI Z 3770 K), (o2, zI Z 6 (qF pn 0)), (o3, zI Z 6 (qF pn 1)), (o4, zI Z 6 (qF pn 2)), (o5, zI Z 6 (upd (qF pn 3) (sn pv) (nI 0))), (o6, zI Z 6 E), (o7, zI Z 29 Tk), (o8, zI Z 29 Lf)] _ _ := hW
          refine lv_iload_n hx hb dX5_distribute_87 rfl (lv_at hl 1 rfl) ?_
          exact z_iret hx hb hr hlk hW (nI 0, K, qF pn 0, qF pn 1, qF pn 2, upd (qF pn 3) (sn pv) (nI 0)) (by unfold po_X5_distribute; exact Or.inl ⟨rfl, cdx_0 (fun h6 => h6 hP) (fun h6 => h6) (fun h6 => h6), rfl, (by rw [hK, show j = 290 by omega]; exact dS_290 (hG.2.2.1 _) (hG.2.1 _) (by omega)), qs_0 rfl, qs_1 rfl, qs_2 rfl, qf_3⟩) (rfl) (by omega) (by omega) dX5_distribute_88
        · obtain ⟨hd1, hd2, hd3⟩ := dS_s (S := S) (F := F) (G := G) hP6 (show j < 290 by omega)
          rw [← hK] at hd1 hd2
          refine lv_aload_n hx hb dX5_distribute_37 rfl (lv_at hl 2 rfl) ?_
          refine z_get (C := RX5) (T := TX5) (N := 17) hx hb hts mw_X5_distribute_1 hown hX hW 0 rfl rfl 8 (by decide) mw_X5_distribute_3 (fun _ h9 => h9) rfl dX5_distribute_38 ?_
          refine lv_iload_n hx hb dX5_distribute_41 rfl (lv_at hl 3 rfl) ?_
          refine zc_i (va_runS (As := [.int (nI (sn pv))]) (rest := [.ref o1]) hC (c_X5_caseOf l Z (sn pv)  _) (va_cwS 1 hts gX5_distribute_X5_caseOf rfl rfl rfl (by decide +kernel) ⟨Nat.le_of_ble_eq_true rfl, Nat.le_of_ble_eq_true rfl⟩) (zpreS hX hW [] rfl (by decide)) rfl rfl hl.1 rfl (lv_room (Nat.le_of_ble_eq_true rfl)) dX5_distribute_42 ⟨Nat.le_of_ble_eq_true rfl, Nat.le_of_ble_eq_true rfl⟩) hX hW [] rfl (by decide) (fun _ => rfl) (fun r_42 u_42 H locs h_42 hW => ?_)
          have hW : zW Z s A [(o0, .inr (5, [.int (nI 0), .int dy, .int me, .int co, .int (nI np), .int ca, .int br, .int ml, .ref o1, .ref o2, .ref o3, .ref o4, .ref o5, .ref o6, .int le, .ref o7, .ref o8])), (o1, zI Z 3770 K), (o2, zI Z 6 (qF pn 0)), (o3, zI Z 6 (qF pn 1)), (o4, zI Z 6 (qF pn 2)), (o5, zI Z 6 (qF pn 3)), (o6, zI Z 6 E), (o7, zI Z 29 Tk), (o8, zI Z 29 Lf)] _ _ := hW
          subst h_42
          refine lv_iload_n hx hb dX5_distribute_45 rfl (lv_at hl 0 rfl) ?_
          refine lv_iadd hx hb dX5_distribute_46 ?_
          refine zw_topi (nI_add _ _) ?_
          refine lv_dup2_11 hx hb dX5_distribute_47 rfl rfl ?_
          refine z_iald hx hb hX hW 1 rfl (k := ((290 * (1 + (sn pv))) + j)) (by omega) (by omega) dX5_distribute_48 ?_
          refine zw_topi (y := (F (sn pv) j)) (hd1) ?_
          refine lv_aload_n hx hb dX5_distribute_49 rfl (lv_at hl 2 rfl) ?_
          refine z_get (C := RX5) (T := TX5) (N := 17) hx hb hts mw_X5_distribute_1 hown hX hW 0 rfl rfl 8 (by decide) mw_X5_distribute_3 (fun _ h9 => h9) rfl dX5_distribute_50 ?_
          refine lv_iload_n hx hb dX5_distribute_53 rfl (lv_at hl 3 rfl) ?_
          refine zc_i (va_runS (As := [.int (nI (sn pv))]) (rest := [.ref o1, .int (F (sn pv) j), .int (nI ((290 * (1 + (sn pv))) + j)), .ref o1]) hC (c_X5_formOf l Z (sn pv)  _) (va_cwS 1 hts gX5_distribute_X5_formOf rfl rfl rfl (by decide +kernel) ⟨Nat.le_of_ble_eq_true rfl, Nat.le_of_ble_eq_true rfl⟩) (zpreS hX hW [] rfl (by decide)) rfl rfl hl.1 rfl (lv_room (Nat.le_of_ble_eq_true rfl)) dX5_distribute_54 ⟨Nat.le_of_ble_eq_true rfl, Nat.le_of_ble_eq_true rfl⟩) hX hW [] rfl (by decide) (fun _ => rfl) (fun r_54 u_54 H locs h_54 hW => ?_)
          have hW : zW Z s A [(o0, .inr (5, [.int (nI 0), .int dy, .int me, .int co, .int (nI np), .int ca, .int br, .int ml, .ref o1, .ref o2, .ref o3, .ref o4, .ref o5, .ref o6, .int le, .ref o7, .ref o8])), (o1, zI Z 3770 K), (o2, zI Z 6 (qF pn 0)), (o3, zI Z 6 (qF pn 1)), (o4, zI Z 6 (qF pn 2)), (o5, zI Z 6 (qF pn 3)), (o6, zI Z 6 E), (o7, zI Z 29 Tk), (o8, zI Z 29 Lf)] _ _ := hW
          subst h_54
          refine lv_iload_n hx hb dX5_distribute_57 rfl (lv_at hl 0 rfl) ?_
          refine lv_iadd hx hb dX5_distribute_58 ?_
          refine zw_topi (nI_add _ _) ?_
          refine z_iald hx hb hX hW 1 rfl (k := ((290 * (7 + (sn pv))) + j)) (by omega) (by omega) dX5_distribute_59 ?_
          refine zw_topi (y := (G (sn pv) j)) (hd2) ?_
          refine lv_iadd hx hb dX5_distribute_60 ?_
          refine z_iast hx hb hX hW 1 rfl (k := ((290 * (1 + (sn pv))) + j)) (by omega) (by omega) dX5_distribute_61 (fun H locs hW => ?_)
          have hW : zW Z s A [(o0, .inr (5, [.int (nI 0), .int dy, .int me, .int co, .int (nI np), .int ca, .int br, .int ml, .ref o1, .ref o2, .ref o3, .ref o4, .ref o5, .ref o6, .int le, .ref o7, .ref o8])), (o1, zI Z 3770 (upd K ((290 * (1 + (sn pv))) + j) ((F (sn pv) j) + (G (sn pv) j)))), (o2, zI Z 6 (qF pn 0)), (o3, zI Z 6 (qF pn 1)), (o4, zI Z 6 (qF pn 2)), (o5, zI Z 6 (qF pn 3)), (o6, zI Z 6 E), (o7, zI Z 29 Tk), (o8, zI Z 29 Lf)] _ _ := hW
          refine lv_aload_n hx hb dX5_distribute_62 rfl (lv_at hl 2 rfl) ?_
          refine z_get (C := RX5) (T := TX5) (N := 17) hx hb hts mw_X5_distribute_1 hown hX hW 0 rfl rfl 8 (by decide) mw_X5_distribute_3 (fun _ h9 => h9) rfl dX5_distribute_63 ?_
          refine lv_iload_n hx hb dX5_distribute_66 rfl (lv_at hl 3 rfl) ?_
          refine zc_i (va_runS (As := [.int (nI (sn pv))]) (rest := [.ref o1]) hC (c_X5_formOf l Z (sn pv)  _) (va_cwS 1 hts gX5_distribute_X5_formOf rfl rfl rfl (by decide +kernel) ⟨Nat.le_of_ble_eq_true rfl, Nat.le_of_ble_eq_true rfl⟩) (zpreS hX hW [] rfl (by decide)) rfl rfl hl.1 rfl (lv_room (Nat.le_of_ble_eq_true rfl)) dX5_distribute_67 ⟨Nat.le_of_ble_eq_true rfl, Nat.le_of_ble_eq_true rfl⟩) hX hW [] rfl (by decide) (fun _ => rfl) (fun r_67 u_67 H locs h_67 hW => ?_)
          have hW : zW Z s A [(o0, .inr (5, [.int (nI 0), .int dy, .int me, .int co, .int (nI np), .int ca, .int br, .int ml, .ref o1, .ref o2, .ref o3, .ref o4, .ref o5, .ref o6, .int le, .ref o7, .ref o8])), (o1, zI Z 3770 (upd K ((290 * (1 + (sn pv))) + j) ((F (sn pv) j) + (G (sn pv) j)))), (o2, zI Z 6 (qF pn 0)), (o3, zI Z 6 (qF pn 1)), (o4, zI Z 6 (qF pn 2)), (o5, zI Z 6 (qF pn 3)), (o6, zI Z 6 E), (o7, zI Z 29 Tk), (o8, zI Z 29 Lf)] _ _ := hW
          subst h_67
          refine lv_iload_n hx hb dX5_distribute_70 rfl (lv_at hl 0 rfl) ?_
          refine lv_iadd hx hb dX5_distribute_71 ?_
          refine zw_topi (nI_add _ _) ?_
          refine lv_iconst (v := nI 0) hx hb dX5_distribute_72 (by decide) ?_
          refine z_iast hx hb hX hW 1 rfl (k := ((290 * (7 + (sn pv))) + j)) (by omega) (by omega) dX5_distribute_73 (fun H locs hW => ?_)
          have hW : zW Z s A [(o0, .inr (5, [.int (nI 0), .int dy, .int me, .int co, .int (nI np), .int ca, .int br, .int ml, .ref o1, .ref o2, .ref o3, .ref o4, .ref o5, .ref o6, .int le, .ref o7, .ref o8])), (o1, zI Z 3770 (upd (upd K ((290 * (1 + (sn pv))) + j) ((F (sn pv) j) + (G (sn pv) j))) ((290 * (7 + (sn pv))) + j) (nI 0))), (o2, zI Z 6 (qF pn 0)), (o3, zI Z 6 (qF pn 1)), (o4, zI Z 6 (qF pn 2)), (o5, zI Z 6 (qF pn 3)), (o6, zI Z 6 E), (o7, zI Z 29 Tk), (o8, zI Z 29 Lf)] _ _ := hW
          refine lv_iinc (v := nI (j + 1)) (lv' := [(3, .int (nI (j + 1))), (2, .int (bx_sum (G (sn pv)) 290)), (0, .ref o0), (1, .int (nI (sn pv)))]) hx hb dX5_distribute_74 hl (k := 0) rfl (zinc1 _) (by decide) rfl (fun ls hl => ?_)
          refine lv_goto (tgt := 30) hx hb dX5_distribute_77 (by decide) ?_
          have hl : lv_has ls 4 [(3, .int (nI (j + 1))), (2, .int (bx_sum (G (sn pv)) 290)), (0, .ref o0), (1, .int (nI (sn pv)))] := lv_sub hl [0, 1, 2, 3] rfl
          exact ih_30 (j + 1) (upd (upd K ((290 * (1 + (sn pv))) + j) ((F (sn pv) j) + (G (sn pv) j))) ((290 * (7 + (sn pv))) + j) (nI 0)) (by omega) (by rw [hK]; exact hd3) (by omega) _ _ _ hW hl
    have hl : lv_has ls 4 [(3, .int (nI 0)), (2, .int (bx_sum (G (sn pv)) 290)), (0, .ref o0), (1, .int (nI (sn pv)))] := lv_sub hl [0, 1, 2, 3] rfl
    exact loop_30 _ 0 (stF S F G) (by omega) (dS_0 S F G (sn pv)) (Nat.lt_succ_self _) _ _ _ hW hl
  · refine lv_aload_n hx hb dX5_distribute_13 rfl (lv_at hl 0 rfl) ?_
    refine lv_iconst (v := nI 1) hx hb dX5_distribute_14 (by decide) ?_
    refine zc_i (va_runV (As := [.int (nI 1)]) (rest := []) hC (c_X5_no l Z o0 o1 o2 o3 o4 o5 o6 o7 o8 np (nI 0) dy me co ca br ml le 1  _) (cwV 1 hts gX5_distribute_X5_no rfl rfl rfl (by decide +kernel) ⟨Nat.le_of_ble_eq_true rfl, Nat.le_of_ble_eq_true rfl⟩) (zpreV (ci := 5) (q0 := 0) hX hW rfl rfl [0] rfl (by decide)) rfl rfl hl.1 rfl (lv_room (Nat.le_of_ble_eq_true rfl)) dX5_distribute_15 ⟨Nat.le_of_ble_eq_true rfl, Nat.le_of_ble_eq_true rfl⟩) hX hW [0] rfl (by decide) (fun _ => rfl) (fun r_15 u_15 H locs h_15 hW => ?_)
    have hW : zW Z s A [(o0, .inr (5, [.int (nI 1), .int dy, .int me, .int co, .int (nI np), .int ca, .int br, .int ml, .ref o1, .ref o2, .ref o3, .ref o4, .ref o5, .ref o6, .int le, .ref o7, .ref o8])), (o1, zI Z 3770 (stF S F G)), (o2, zI Z 6 (qF pn 0)), (o3, zI Z 6 (qF pn 1)), (o4, zI Z 6 (qF pn 2)), (o5, zI Z 6 (qF pn 3)), (o6, zI Z 6 E), (o7, zI Z 29 Tk), (o8, zI Z 29 Lf)] _ _ := hW
    subst h_15
    exact z_iret hx hb hr hlk hW (nI 1, stF S F G, qF pn 0, qF pn 1, qF pn 2, qF pn 3) (by unfold po_X5_distribute; exact Or.inr ⟨1, by omega, cdx_1 (bI_e c_10), rfl, rfl, rfl, rfl, rfl, rfl⟩) (rfl) (by omega) (by omega) dX5_distribute_18
