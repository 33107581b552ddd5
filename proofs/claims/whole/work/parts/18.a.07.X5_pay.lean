theorem mw_X5_pay_0 : Cond.fieldLink RX5 38 "TypeFoundryModel" "thrown" "I" ∈ wsX5_pay := by decide +kernel
theorem mw_X5_pay_1 : ∀ w ∈ wsX50, w ∈ wsX5_pay := by decide +kernel
theorem mw_X5_pay_2 : Cond.fieldLink RX5 17 "TypeFoundryModel" "own" "[I" ∈ wsX5_pay := by decide +kernel
theorem mw_X5_pay_3 : Cond.fieldLink RX5 20 "TypeFoundryModel" "owed" "[I" ∈ wsX5_pay := by decide +kernel
theorem mw_X5_pay_4 : Cond.methodLink RX5 48 Lib.Math.min.name ∈ wsX5_pay := by decide +kernel
theorem mw_X5_pay_5 : Cond.static Lib.Math.min.name ∈ wsX5_pay := by decide +kernel
theorem mw_X5_pay_6 : Cond.initialized "java/lang/Math" ∈ wsX5_pay := by decide +kernel
theorem mw_X5_pay_7 : Cond.code Lib.Math.min.name Lib.Math.min.code 2 (some .int) ∈ wsX5_pay := by decide +kernel
theorem mw_X5_pay_8 : Cond.fieldLink RX5 84 "TypeFoundryModel" "coins" "I" ∈ wsX5_pay := by decide +kernel
abbrev wp_X5_pay (Z : zT) (o0 o1 o2 o3 o4 o5 o6 o7 o8 np : Nat) (th dy me co ca br ml le : Int32) (S E Tk Lf : Nat → Int32) (F G pn : Nat → Nat → Int32) (pv : Int32) : Int32 × Int32 × (Nat → Int32) × (Nat → Int32) × (Nat → Int32) × (Nat → Int32) → va_W := fun (u : Int32 × Int32 × (Nat → Int32) × (Nat → Int32) × (Nat → Int32) × (Nat → Int32)) => match u with | (th_1, co_1, q0_1, q1_1, q2_1, q3_1) => [(o0, .inr (5, [.int th_1, .int dy, .int me, .int co_1, .int (nI np), .int ca, .int br, .int ml, .ref o1, .ref o2, .ref o3, .ref o4, .ref o5, .ref o6, .int le, .ref o7, .ref o8])), (o1, zI Z 3770 (stF S F G)), (o2, zI Z 6 q0_1), (o3, zI Z 6 q1_1), (o4, zI Z 6 q2_1), (o5, zI Z 6 q3_1), (o6, zI Z 6 E), (o7, zI Z 29 Tk), (o8, zI Z 29 Lf)]
abbrev po_X5_pay (Z : zT) (o0 o1 o2 o3 o4 o5 o6 o7 o8 np : Nat) (th dy me co ca br ml le : Int32) (S E Tk Lf : Nat → Int32) (F G pn : Nat → Nat → Int32) (pv : Int32) : Int32 → Int32 × Int32 × (Nat → Int32) × (Nat → Int32) × (Nat → Int32) × (Nat → Int32) → Prop := fun (r : Int32) (u : Int32 × Int32 × (Nat → Int32) × (Nat → Int32) × (Nat → Int32) × (Nat → Int32)) => match u with | (th_1, co_1, q0_1, q1_1, q2_1, q3_1) => (th_1 = nI 0 ∧ 0 = cdx (¬ isP pv np) (False) (False) ∧ r = mn (pn (sn pv) 1) (pn (sn pv) 0) ∧ co_1 = co + mn (pn (sn pv) 1) (pn (sn pv) 0) ∧ q0_1 = qF (up pn (sn pv) (q4 (pn (sn pv) 0 - mn (pn (sn pv) 1) (pn (sn pv) 0)) (pn (sn pv) 1 - mn (pn (sn pv) 1) (pn (sn pv) 0)) (pn (sn pv) 2) (pn (sn pv) 3))) 0 ∧ q1_1 = qF (up pn (sn pv) (q4 (pn (sn pv) 0 - mn (pn (sn pv) 1) (pn (sn pv) 0)) (pn (sn pv) 1 - mn (pn (sn pv) 1) (pn (sn pv) 0)) (pn (sn pv) 2) (pn (sn pv) 3))) 1 ∧ q2_1 = qF (up pn (sn pv) (q4 (pn (sn pv) 0 - mn (pn (sn pv) 1) (pn (sn pv) 0)) (pn (sn pv) 1 - mn (pn (sn pv) 1) (pn (sn pv) 0)) (pn (sn pv) 2) (pn (sn pv) 3))) 2 ∧ q3_1 = qF (up pn (sn pv) (q4 (pn (sn pv) 0 - mn (pn (sn pv) 1) (pn (sn pv) 0)) (pn (sn pv) 1 - mn (pn (sn pv) 1) (pn (sn pv) 0)) (pn (sn pv) 2) (pn (sn pv) 3))) 3) ∨ (∃ k9, 1 ≤ k9 ∧ k9 = cdx (¬ isP pv np) (False) (False) ∧ th_1 = nI k9 ∧ co_1 = co ∧ q0_1 = qF pn 0 ∧ q1_1 = qF pn 1 ∧ q2_1 = qF pn 2 ∧ q3_1 = qF pn 3)
abbrev rm_X5_pay : Room := { frames := 2, cells := 0, slots := 0, locals := 43 }
set_option maxHeartbeats 4000000 in
set_option maxRecDepth 100000 in
theorem c_X5_pay (l : Launch) (Z : zT) (o0 o1 o2 o3 o4 o5 o6 o7 o8 np : Nat) (th dy me co ca br ml le : Int32) (S E Tk Lf : Nat → Int32) (F G pn : Nat → Nat → Int32) (pv : Int32) (hG : GA S F G) (hnp : np ≤ 6) : zMet l yX5_pay wsX5_pay rm_X5_pay [.ref o0, .int pv] Z [(o0, .inr (5, [.int th, .int dy, .int me, .int co, .int (nI np), .int ca, .int br, .int ml, .ref o1, .ref o2, .ref o3, .ref o4, .ref o5, .ref o6, .int le, .ref o7, .ref o8])), (o1, zI Z 3770 (stF S F G)), (o2, zI Z 6 (qF pn 0)), (o3, zI Z 6 (qF pn 1)), (o4, zI Z 6 (qF pn 2)), (o5, zI Z 6 (qF pn 3)), (o6, zI Z 6 E), (o7, zI Z 29 Tk), (o8, zI Z 29 Lf)] (zQi Z (po_X5_pay Z o0 o1 o2 o3 o4 o5 o6 o7 o8 np th dy me co ca br ml le S E Tk Lf F G pn pv) (wp_X5_pay Z o0 o1 o2 o3 o4 o5 o6 o7 o8 np th dy me co ca br ml le S E Tk Lf F G pn pv)) 0 0 := by
  refine zstart (cc := cX5_pay) (maxL := 3) (ret := (some .int)) (by decide) rfl (Nat.le_of_ble_eq_true rfl) ?_
  intro p e s m below meth c ls A hx hb hr hC hlk hnm hX hW hl
  have hml := hC.2.2.1
  have hown : s.vm.findClass RX5 = some m.cls := hC.2.2.2.1
  have hts := hC.2.2.2.2
  have hl : lv_has ls 3 [(0, .ref o0), (1, .int pv)] := hl
  refine lv_aload_n hx hb dX5_pay_0 rfl (lv_at hl 0 rfl) ?_
  refine lv_iconst (v := nI 0) hx hb dX5_pay_1 (by decide) ?_
  refine z_put (C := RX5) (T := TX5) (N := 17) (v := .int (nI 0)) (ty := .int) hx hb hts mw_X5_pay_1 tyX5 tyX5_ok nmX5 hown hX hW 0 rfl rfl 0 (by decide) mw_X5_pay_0 (fun _ h9 => h9) rfl (by decide +kernel) rfl rfl (Nat.le_of_ble_eq_true rfl) dX5_pay_2 (fun H locs hW => ?_)
  have hW : zW Z s A [(o0, .inr (5, [.int (nI 0), .int dy, .int me, .int co, .int (nI np), .int ca, .int br, .int ml, .ref o1, .ref o2, .ref o3, .ref o4, .ref o5, .ref o6, .int le, .ref o7, .ref o8])), (o1, zI Z 3770 (stF S F G)), (o2, zI Z 6 (qF pn 0)), (o3, zI Z 6 (qF pn 1)), (o4, zI Z 6 (qF pn 2)), (o5, zI Z 6 (qF pn 3)), (o6, zI Z 6 E), (o7, zI Z 29 Tk), (o8, zI Z 29 Lf)] _ _ := hW
  refine lv_aload_n hx hb dX5_pay_5 rfl (lv_at hl 0 rfl) ?_
  refine lv_iload_n hx hb dX5_pay_6 rfl (lv_at hl 1 rfl) ?_
  refine zc_i (va_runV (As := [.int pv]) (rest := []) hC (c_X5_isPrinter l Z o0 o1 o2 o3 o4 o5 o6 o7 o8 np (nI 0) dy me co ca br ml le pv (by omega) _) (cwV 1 hts gX5_pay_X5_isPrinter rfl rfl rfl (by decide +kernel) ⟨Nat.le_of_ble_eq_true rfl, Nat.le_of_ble_eq_true rfl⟩) (zpreV (ci := 5) (q0 := 0) hX hW rfl rfl [0] rfl (by decide)) rfl rfl hl.1 rfl (lv_room (Nat.le_of_ble_eq_true rfl)) dX5_pay_7 ⟨Nat.le_of_ble_eq_true rfl, Nat.le_of_ble_eq_true rfl⟩) hX hW [0] rfl (by decide) (fun _ => rfl) (fun r_7 u_7 H locs h_7 hW => ?_)
  have hW : zW Z s A [(o0, .inr (5, [.int (nI 0), .int dy, .int me, .int co, .int (nI np), .int ca, .int br, .int ml, .ref o1, .ref o2, .ref o3, .ref o4, .ref o5, .ref o6, .int le, .ref o7, .ref o8])), (o1, zI Z 3770 (stF S F G)), (o2, zI Z 6 (qF pn 0)), (o3, zI Z 6 (qF pn 1)), (o4, zI Z 6 (qF pn 2)), (o5, zI Z 6 (qF pn 3)), (o6, zI Z 6 E), (o7, zI Z 29 Tk), (o8, zI Z 29 Lf)] _ _ := hW
  subst h_7
  refine lv_if_ne (tgt := 19) hx hb dX5_pay_10 (by decide) (fun c_10 => ?_) (fun c_10 => ?_)
  · have hP : isP pv np := bI_n c_10
    have hP1 := hP.1
    have hl : lv_has ls 3 [(0, .ref o0), (1, .int (nI (sn pv)))] := by rw [← hP.2]; exact hl
    refine lv_aload_n hx hb dX5_pay_19 rfl (lv_at hl 0 rfl) ?_
    refine z_get (C := RX5) (T := TX5) (N := 17) hx hb hts mw_X5_pay_1 hown hX hW 0 rfl rfl 9 (by decide) mw_X5_pay_2 (fun _ h9 => h9) rfl dX5_pay_20 ?_
    refine lv_iload_n hx hb dX5_pay_23 rfl (lv_at hl 1 rfl) ?_
    refine z_iald hx hb hX hW 2 rfl (k := (sn pv)) (by omega) (by omega) dX5_pay_24 ?_
    refine zw_topi (y := (pn (sn pv) 0)) (rfl) ?_
    refine lv_aload_n hx hb dX5_pay_25 rfl (lv_at hl 0 rfl) ?_
    refine z_get (C := RX5) (T := TX5) (N := 17) hx hb hts mw_X5_pay_1 hown hX hW 0 rfl rfl 10 (by decide) mw_X5_pay_3 (fun _ h9 => h9) rfl dX5_pay_26 ?_
    refine lv_iload_n hx hb dX5_pay_29 rfl (lv_at hl 1 rfl) ?_
    refine z_iald hx hb hX hW 3 rfl (k := (sn pv)) (by omega) (by omega) dX5_pay_30 ?_
    refine zw_topi (y := (pn (sn pv) 1)) (rfl) ?_
    refine va_mmin hx hb (hml.trans hl.1.symm) hown (hts _ mw_X5_pay_4) (hts _ mw_X5_pay_5) (hts _ mw_X5_pay_6) (hts _ mw_X5_pay_7) (Nat.le_of_ble_eq_true rfl) (Nat.le_of_ble_eq_true rfl) (Nat.le_of_ble_eq_true rfl) (Nat.le_of_ble_eq_true rfl) dX5_pay_31 ?_
    refine zw_topi (y := (mn (pn (sn pv) 1) (pn (sn pv) 0))) (mn_c _ _) ?_
    refine lv_istore_n (lv' := [(2, .int (mn (pn (sn pv) 1) (pn (sn pv) 0))), (0, .ref o0), (1, .int (nI (sn pv)))]) hx hb dX5_pay_34 rfl hl (by decide) rfl (fun ls hl => ?_)
    refine lv_aload_n hx hb dX5_pay_35 rfl (lv_at hl 1 rfl) ?_
    refine z_get (C := RX5) (T := TX5) (N := 17) hx hb hts mw_X5_pay_1 hown hX hW 0 rfl rfl 9 (by decide) mw_X5_pay_2 (fun _ h9 => h9) rfl dX5_pay_36 ?_
    refine lv_iload_n hx hb dX5_pay_39 rfl (lv_at hl 2 rfl) ?_
    refine lv_dup2_11 hx hb dX5_pay_40 rfl rfl ?_
    refine z_iald hx hb hX hW 2 rfl (k := (sn pv)) (by omega) (by omega) dX5_pay_41 ?_
    refine zw_topi (y := (pn (sn pv) 0)) (rfl) ?_
    refine lv_iload_n hx hb dX5_pay_42 rfl (lv_at hl 0 rfl) ?_
    refine lv_isub hx hb dX5_pay_43 ?_
    refine z_iast hx hb hX hW 2 rfl (k := (sn pv)) (by omega) (by omega) dX5_pay_44 (fun H locs hW => ?_)
    have hW : zW Z s A [(o0, .inr (5, [.int (nI 0), .int dy, .int me, .int co, .int (nI np), .int ca, .int br, .int ml, .ref o1, .ref o2, .ref o3, .ref o4, .ref o5, .ref o6, .int le, .ref o7, .ref o8])), (o1, zI Z 3770 (stF S F G)), (o2, zI Z 6 (upd (qF pn 0) (sn pv) ((pn (sn pv) 0) - (mn (pn (sn pv) 1) (pn (sn pv) 0))))), (o3, zI Z 6 (qF pn 1)), (o4, zI Z 6 (qF pn 2)), (o5, zI Z 6 (qF pn 3)), (o6, zI Z 6 E), (o7, zI Z 29 Tk), (o8, zI Z 29 Lf)] _ _ := hW
    refine lv_aload_n hx hb dX5_pay_45 rfl (lv_at hl 1 rfl) ?_
    refine z_get (C := RX5) (T := TX5) (N := 17) hx hb hts mw_X5_pay_1 hown hX hW 0 rfl rfl 10 (by decide) mw_X5_pay_3 (fun _ h9 => h9) rfl dX5_pay_46 ?_
    refine lv_iload_n hx hb dX5_pay_49 rfl (lv_at hl 2 rfl) ?_
    refine lv_dup2_11 hx hb dX5_pay_50 rfl rfl ?_
    refine z_iald hx hb hX hW 3 rfl (k := (sn pv)) (by omega) (by omega) dX5_pay_51 ?_
    refine zw_topi (y := (pn (sn pv) 1)) (rfl) ?_
    refine lv_iload_n hx hb dX5_pay_52 rfl (lv_at hl 0 rfl) ?_
    refine lv_isub hx hb dX5_pay_53 ?_
    refine z_iast hx hb hX hW 3 rfl (k := (sn pv)) (by omega) (by omega) dX5_pay_54 (fun H locs hW => ?_)
    have hW : zW Z s A [(o0, .inr (5, [.int (nI 0), .int dy, .int me, .int co, .int (nI np), .int ca, .int br, .int ml, .ref o1, .ref o2, .ref o3, .ref o4, .ref o5, .ref o6, .int le, .ref o7, .ref o8])), (o1, zI Z 3770 (stF S F G)), (o2, zI Z 6 (upd (qF pn 0) (sn pv) ((pn (sn pv) 0) - (mn (pn (sn pv) 1) (pn (sn pv) 0))))), (o3, zI Z 6 (upd (qF pn 1) (sn pv) ((pn (sn pv) 1) - (mn (pn (sn pv) 1) (pn (sn pv) 0))))), (o4, zI Z 6 (qF pn 2)), (o5, zI Z 6 (qF pn 3)), (o6, zI Z 6 E), (o7, zI Z 29 Tk), (o8, zI Z 29 Lf)] _ _ := hW
    refine lv_aload_n hx hb dX5_pay_55 rfl (lv_at hl 1 rfl) ?_
    refine lv_dup hx hb dX5_pay_56 rfl ?_
    refine z_get (C := RX5) (T := TX5) (N := 17) hx hb hts mw_X5_pay_1 hown hX hW 0 rfl rfl 3 (by decide) mw_X5_pay_8 (fun _ h9 => h9) rfl dX5_pay_57 ?_
    refine lv_iload_n hx hb dX5_pay_60 rfl (lv_at hl 0 rfl) ?_
    refine lv_iadd hx hb dX5_pay_61 ?_
    refine z_put (C := RX5) (T := TX5) (N := 17) (v := .int (co + (mn (pn (sn pv) 1) (pn (sn pv) 0)))) (ty := .int) hx hb hts mw_X5_pay_1 tyX5 tyX5_ok nmX5 hown hX hW 0 rfl rfl 3 (by decide) mw_X5_pay_8 (fun _ h9 => h9) rfl (by decide +kernel) rfl rfl (Nat.le_of_ble_eq_true rfl) dX5_pay_62 (fun H locs hW => ?_)
    have hW : zW Z s A [(o0, .inr (5, [.int (nI 0), .int dy, .int me, .int (co + (mn (pn (sn pv) 1) (pn (sn pv) 0))), .int (nI np), .int ca, .int br, .int ml, .ref o1, .ref o2, .ref o3, .ref o4, .ref o5, .ref o6, .int le, .ref o7, .ref o8])), (o1, zI Z 3770 (stF S F G)), (o2, zI Z 6 (upd (qF pn 0) (sn pv) ((pn (sn pv) 0) - (mn (pn (sn pv) 1) (pn (sn pv) 0))))), (o3, zI Z 6 (upd (qF pn 1) (sn pv) ((pn (sn pv) 1) - (mn (pn (sn pv) 1) (pn (sn pv) 0))))), (o4, zI Z 6 (qF pn 2)), (o5, zI Z 6 (qF pn 3)), (o6, zI Z 6 E), (o7, zI Z 29 Tk), (o8, zI Z 29 Lf)] _ _ := hW
    refine lv_iload_n hx hb dX5_pay_65 rfl (lv_at hl 0 rfl) ?_
    exact z_iret hx hb hr hlk hW ((nI 0), co + (mn (pn (sn pv) 1) (pn (sn pv) 0)), upd (qF pn 0) (sn pv) ((pn (sn pv) 0) - (mn (pn (sn pv) 1) (pn (sn pv) 0))), upd (qF pn 1) (sn pv) ((pn (sn pv) 1) - (mn (pn (sn pv) 1) (pn (sn pv) 0))), qF pn 2, qF pn 3) (by unfold po_X5_pay; exact Or.inl ⟨rfl, cdx_0 (fun h6 => h6 hP) (fun h6 => h6) (fun h6 => h6), rfl, rfl, qf_0, qf_1, qs_2 rfl, qs_3 rfl⟩) (rfl) (by omega) (by omega) dX5_pay_66
  · refine lv_aload_n hx hb dX5_pay_13 rfl (lv_at hl 0 rfl) ?_
    refine lv_iconst (v := nI 1) hx hb dX5_pay_14 (by decide) ?_
    refine zc_i (va_runV (As := [.int (nI 1)]) (rest := []) hC (c_X5_no l Z o0 o1 o2 o3 o4 o5 o6 o7 o8 np (nI 0) dy me co ca br ml le 1  _) (cwV 1 hts gX5_pay_X5_no rfl rfl rfl (by decide +kernel) ⟨Nat.le_of_ble_eq_true rfl, Nat.le_of_ble_eq_true rfl⟩) (zpreV (ci := 5) (q0 := 0) hX hW rfl rfl [0] rfl (by decide)) rfl rfl hl.1 rfl (lv_room (Nat.le_of_ble_eq_true rfl)) dX5_pay_15 ⟨Nat.le_of_ble_eq_true rfl, Nat.le_of_ble_eq_true rfl⟩) hX hW [0] rfl (by decide) (fun _ => rfl) (fun r_15 u_15 H locs h_15 hW => ?_)
    have hW : zW Z s A [(o0, .inr (5, [.int (nI 1), .int dy, .int me, .int co, .int (nI np), .int ca, .int br, .int ml, .ref o1, .ref o2, .ref o3, .ref o4, .ref o5, .ref o6, .int le, .ref o7, .ref o8])), (o1, zI Z 3770 (stF S F G)), (o2, zI Z 6 (qF pn 0)), (o3, zI Z 6 (qF pn 1)), (o4, zI Z 6 (qF pn 2)), (o5, zI Z 6 (qF pn 3)), (o6, zI Z 6 E), (o7, zI Z 29 Tk), (o8, zI Z 29 Lf)] _ _ := hW
    subst h_15
    exact z_iret hx hb hr hlk hW (nI 1, co, qF pn 0, qF pn 1, qF pn 2, qF pn 3) (by unfold po_X5_pay; exact Or.inr ⟨1, by omega, cdx_1 (bI_e c_10), rfl, rfl, rfl, rfl, rfl, rfl⟩) (rfl) (by omega) (by omega) dX5_pay_18
