theorem mw_X5_told_0 : Cond.arrayClass .int ∈ wsX5_told := by decide +kernel
theorem mw_X5_told_1 : Cond.fieldLink RX5 17 "TypeFoundryModel" "own" "[I" ∈ wsX5_told := by decide +kernel
theorem mw_X5_told_2 : ∀ w ∈ wsX50, w ∈ wsX5_told := by decide +kernel
theorem mw_X5_told_3 : Cond.fieldLink RX5 20 "TypeFoundryModel" "owed" "[I" ∈ wsX5_told := by decide +kernel
theorem mw_X5_told_4 : Cond.fieldLink RX5 23 "TypeFoundryModel" "copies" "[I" ∈ wsX5_told := by decide +kernel
theorem mw_X5_told_5 : Cond.fieldLink RX5 26 "TypeFoundryModel" "words" "[I" ∈ wsX5_told := by decide +kernel
abbrev wp_X5_told (Z : zT) (o0 o1 o2 o3 o4 o5 o6 o7 o8 np : Nat) (th dy me co ca br ml le : Int32) (f Q0 Q1 Q2 Q3 : Nat → Int32) (pk w : Nat) : Unit → va_W := fun (u : Unit) => [(o0, .inr (5, [.int th, .int dy, .int me, .int co, .int (nI np), .int ca, .int br, .int ml, .ref o1, .ref o2, .ref o3, .ref o4, .ref o5, .ref o6, .int le, .ref o7, .ref o8])), (o1, zI Z 3770 f), (o2, zI Z 6 Q0), (o3, zI Z 6 Q1), (o4, zI Z 6 Q2), (o5, zI Z 6 Q3)]
abbrev po_X5_told (Z : zT) (o0 o1 o2 o3 o4 o5 o6 o7 o8 np : Nat) (th dy me co ca br ml le : Int32) (f Q0 Q1 Q2 Q3 : Nat → Int32) (pk w : Nat) : Int32 → Unit → Prop := fun (r : Int32) (u : Unit) => r = nmb (sh f (290 * (1 + pk))) (sh f (290 * (7 + pk))) (q4 (Q0 pk) (Q1 pk) (Q2 pk) (Q3 pk)) w
abbrev rm_X5_told : Room := { frames := 1, cells := 1, slots := 7, locals := 23 }
set_option maxHeartbeats 4000000 in
set_option maxRecDepth 100000 in
theorem c_X5_told (l : Launch) (Z : zT) (o0 o1 o2 o3 o4 o5 o6 o7 o8 np : Nat) (th dy me co ca br ml le : Int32) (f Q0 Q1 Q2 Q3 : Nat → Int32) (pk w : Nat) (hpk : pk < 6) (hw : w < 7) : zMet l yX5_told wsX5_told rm_X5_told [.ref o0, .int (nI pk), .int (nI w)] Z [(o0, .inr (5, [.int th, .int dy, .int me, .int co, .int (nI np), .int ca, .int br, .int ml, .ref o1, .ref o2, .ref o3, .ref o4, .ref o5, .ref o6, .int le, .ref o7, .ref o8])), (o1, zI Z 3770 f), (o2, zI Z 6 Q0), (o3, zI Z 6 Q1), (o4, zI Z 6 Q2), (o5, zI Z 6 Q3)] (zQi Z (po_X5_told Z o0 o1 o2 o3 o4 o5 o6 o7 o8 np th dy me co ca br ml le f Q0 Q1 Q2 Q3 pk w) (wp_X5_told Z o0 o1 o2 o3 o4 o5 o6 o7 o8 np th dy me co ca br ml le f Q0 Q1 Q2 Q3 pk w)) 1 7 := by
  refine zstart (cc := cX5_told) (maxL := 4) (ret := (some .int)) (by decide) rfl (Nat.le_of_ble_eq_true rfl) ?_
  intro p e s m below meth c ls A hx hb hr hC hlk hnm hX hW hl
  have hml := hC.2.2.1
  have hown : s.vm.findClass RX5 = some m.cls := hC.2.2.2.1
  have hts := hC.2.2.2.2
  have hl : lv_has ls 4 [(0, .ref o0), (1, .int (nI pk)), (2, .int (nI w))] := hl
  refine lv_bipush (v := nI 7) hx hb dX5_told_0 (by decide) ?_
  refine z_newa hx hb hts mw_X5_told_0 hX hW (n := 7) (by omega) (Nat.le_of_ble_eq_true rfl) (Nat.le_of_ble_eq_true rfl) dX5_told_2 (fun qa_1 H hW => ?_)
  have hW : zW Z s A [(o0, .inr (5, [.int th, .int dy, .int me, .int co, .int (nI np), .int ca, .int br, .int ml, .ref o1, .ref o2, .ref o3, .ref o4, .ref o5, .ref o6, .int le, .ref o7, .ref o8])), (o1, zI Z 3770 f), (o2, zI Z 6 Q0), (o3, zI Z 6 Q1), (o4, zI Z 6 Q2), (o5, zI Z 6 Q3), (qa_1, zI Z 7 (fun _ => 0))] _ _ := hW
  refine lv_dup hx hb dX5_told_4 rfl ?_
  refine lv_iconst (v := nI 0) hx hb dX5_told_5 (by decide) ?_
  refine lv_aload_n hx hb dX5_told_6 rfl (lv_at hl 0 rfl) ?_
  refine z_get (C := RX5) (T := TX5) (N := 17) hx hb hts mw_X5_told_2 hown hX hW 0 rfl rfl 9 (by decide) mw_X5_told_1 (fun _ h9 => h9) rfl dX5_told_7 ?_
  refine lv_iload_n hx hb dX5_told_10 rfl (lv_at hl 1 rfl) ?_
  refine z_iald hx hb hX hW 2 rfl (k := pk) (by omega) (by omega) dX5_told_11 ?_
  refine z_iast hx hb hX hW 6 rfl (k := 0) (by omega) (by omega) dX5_told_12 (fun H locs hW => ?_)
  have hW : zW Z s A [(o0, .inr (5, [.int th, .int dy, .int me, .int co, .int (nI np), .int ca, .int br, .int ml, .ref o1, .ref o2, .ref o3, .ref o4, .ref o5, .ref o6, .int le, .ref o7, .ref o8])), (o1, zI Z 3770 f), (o2, zI Z 6 Q0), (o3, zI Z 6 Q1), (o4, zI Z 6 Q2), (o5, zI Z 6 Q3), (qa_1, zI Z 7 (upd (fun _ => 0) 0 (Q0 pk)))] _ _ := hW
  refine lv_dup hx hb dX5_told_13 rfl ?_
  refine lv_iconst (v := nI 1) hx hb dX5_told_14 (by decide) ?_
  refine lv_aload_n hx hb dX5_told_15 rfl (lv_at hl 0 rfl) ?_
  refine z_get (C := RX5) (T := TX5) (N := 17) hx hb hts mw_X5_told_2 hown hX hW 0 rfl rfl 10 (by decide) mw_X5_told_3 (fun _ h9 => h9) rfl dX5_told_16 ?_
  refine lv_iload_n hx hb dX5_told_19 rfl (lv_at hl 1 rfl) ?_
  refine z_iald hx hb hX hW 3 rfl (k := pk) (by omega) (by omega) dX5_told_20 ?_
  refine z_iast hx hb hX hW 6 rfl (k := 1) (by omega) (by omega) dX5_told_21 (fun H locs hW => ?_)
  have hW : zW Z s A [(o0, .inr (5, [.int th, .int dy, .int me, .int co, .int (nI np), .int ca, .int br, .int ml, .ref o1, .ref o2, .ref o3, .ref o4, .ref o5, .ref o6, .int le, .ref o7, .ref o8])), (o1, zI Z 3770 f), (o2, zI Z 6 Q0), (o3, zI Z 6 Q1), (o4, zI Z 6 Q2), (o5, zI Z 6 Q3), (qa_1, zI Z 7 (upd (upd (fun _ => 0) 0 (Q0 pk)) 1 (Q1 pk)))] _ _ := hW
  refine lv_dup hx hb dX5_told_22 rfl ?_
  refine lv_iconst (v := nI 2) hx hb dX5_told_23 (by decide) ?_
  refine lv_aload_n hx hb dX5_told_24 rfl (lv_at hl 0 rfl) ?_
  refine lv_iload_n hx hb dX5_told_25 rfl (lv_at hl 1 rfl) ?_
  refine zc_i (va_runS (As := [.int (nI pk)]) (rest := [.ref o0, .int (nI 2), .ref qa_1, .ref qa_1]) hC (c_X5_caseOf l Z pk  _) (va_cwS 1 hts gX5_told_X5_caseOf rfl rfl rfl (by decide +kernel) ⟨Nat.le_of_ble_eq_true rfl, Nat.le_of_ble_eq_true rfl⟩) (zpreS hX hW [] rfl (by decide)) rfl rfl hl.1 rfl (lv_room (Nat.le_of_ble_eq_true rfl)) dX5_told_26 ⟨Nat.le_of_ble_eq_true rfl, Nat.le_of_ble_eq_true rfl⟩) hX hW [] rfl (by decide) (fun _ => rfl) (fun r_26 u_26 H locs h_26 hW => ?_)
  have hW : zW Z s A [(o0, .inr (5, [.int th, .int dy, .int me, .int co, .int (nI np), .int ca, .int br, .int ml, .ref o1, .ref o2, .ref o3, .ref o4, .ref o5, .ref o6, .int le, .ref o7, .ref o8])), (o1, zI Z 3770 f), (o2, zI Z 6 Q0), (o3, zI Z 6 Q1), (o4, zI Z 6 Q2), (o5, zI Z 6 Q3), (qa_1, zI Z 7 (upd (upd (fun _ => 0) 0 (Q0 pk)) 1 (Q1 pk)))] _ _ := hW
  subst h_26
  refine zc_i (va_runV (As := [.int (nI (290 * (1 + pk)))]) (rest := [.int (nI 2), .ref qa_1, .ref qa_1]) hC (c_X5_all l Z o0 o1 o2 o3 o4 o5 o6 o7 o8 np th dy me co ca br ml le f (290 * (1 + pk)) (by omega) _) (cwV 1 hts gX5_told_X5_all rfl rfl rfl (by decide +kernel) ⟨Nat.le_of_ble_eq_true rfl, Nat.le_of_ble_eq_true rfl⟩) (zpreV (ci := 5) (q0 := 0) hX hW rfl rfl [0, 1] rfl (by decide)) rfl rfl hl.1 rfl (lv_room (Nat.le_of_ble_eq_true rfl)) dX5_told_29 ⟨Nat.le_of_ble_eq_true rfl, Nat.le_of_ble_eq_true rfl⟩) hX hW [0, 1] rfl (by decide) (fun _ => rfl) (fun r_29 u_29 H locs h_29 hW => ?_)
  have hW : zW Z s A [(o0, .inr (5, [.int th, .int dy, .int me, .int co, .int (nI np), .int ca, .int br, .int ml, .ref o1, .ref o2, .ref o3, .ref o4, .ref o5, .ref o6, .int le, .ref o7, .ref o8])), (o1, zI Z 3770 f), (o2, zI Z 6 Q0), (o3, zI Z 6 Q1), (o4, zI Z 6 Q2), (o5, zI Z 6 Q3), (qa_1, zI Z 7 (upd (upd (fun _ => 0) 0 (Q0 pk)) 1 (Q1 pk)))] _ _ := hW
  subst h_29
  refine z_iast hx hb hX hW 6 rfl (k := 2) (by omega) (by omega) dX5_told_32 (fun H locs hW => ?_)
  have hW : zW Z s A [(o0, .inr (5, [.int th, .int dy, .int me, .int co, .int (nI np), .int ca, .int br, .int ml, .ref o1, .ref o2, .ref o3, .ref o4, .ref o5, .ref o6, .int le, .ref o7, .ref o8])), (o1, zI Z 3770 f), (o2, zI Z 6 Q0), (o3, zI Z 6 Q1), (o4, zI Z 6 Q2), (o5, zI Z 6 Q3), (qa_1, zI Z 7 (upd (upd (upd (fun _ => 0) 0 (Q0 pk)) 1 (Q1 pk)) 2 (bx_sum (sh f (290 * (1 + pk))) 290)))] _ _ := hW
  refine lv_dup hx hb dX5_told_33 rfl ?_
  refine lv_iconst (v := nI 3) hx hb dX5_told_34 (by decide) ?_
  refine lv_aload_n hx hb dX5_told_35 rfl (lv_at hl 0 rfl) ?_
  refine lv_iload_n hx hb dX5_told_36 rfl (lv_at hl 1 rfl) ?_
  refine zc_i (va_runS (As := [.int (nI pk)]) (rest := [.ref o0, .int (nI 3), .ref qa_1, .ref qa_1]) hC (c_X5_formOf l Z pk  _) (va_cwS 1 hts gX5_told_X5_formOf rfl rfl rfl (by decide +kernel) ⟨Nat.le_of_ble_eq_true rfl, Nat.le_of_ble_eq_true rfl⟩) (zpreS hX hW [] rfl (by decide)) rfl rfl hl.1 rfl (lv_room (Nat.le_of_ble_eq_true rfl)) dX5_told_37 ⟨Nat.le_of_ble_eq_true rfl, Nat.le_of_ble_eq_true rfl⟩) hX hW [] rfl (by decide) (fun _ => rfl) (fun r_37 u_37 H locs h_37 hW => ?_)
  have hW : zW Z s A [(o0, .inr (5, [.int th, .int dy, .int me, .int co, .int (nI np), .int ca, .int br, .int ml, .ref o1, .ref o2, .ref o3, .ref o4, .ref o5, .ref o6, .int le, .ref o7, .ref o8])), (o1, zI Z 3770 f), (o2, zI Z 6 Q0), (o3, zI Z 6 Q1), (o4, zI Z 6 Q2), (o5, zI Z 6 Q3), (qa_1, zI Z 7 (upd (upd (upd (fun _ => 0) 0 (Q0 pk)) 1 (Q1 pk)) 2 (bx_sum (sh f (290 * (1 + pk))) 290)))] _ _ := hW
  subst h_37
  refine zc_i (va_runV (As := [.int (nI (290 * (7 + pk)))]) (rest := [.int (nI 3), .ref qa_1, .ref qa_1]) hC (c_X5_all l Z o0 o1 o2 o3 o4 o5 o6 o7 o8 np th dy me co ca br ml le f (290 * (7 + pk)) (by omega) _) (cwV 1 hts gX5_told_X5_all rfl rfl rfl (by decide +kernel) ⟨Nat.le_of_ble_eq_true rfl, Nat.le_of_ble_eq_true rfl⟩) (zpreV (ci := 5) (q0 := 0) hX hW rfl rfl [0, 1] rfl (by decide)) rfl rfl hl.1 rfl (lv_room (Nat.le_of_ble_eq_true rfl)) dX5_told_40 ⟨Nat.le_of_ble_eq_true rfl, Nat.le_of_ble_eq_true rfl⟩) hX hW [0, 1] rfl (by decide) (fun _ => rfl) (fun r_40 u_40 H locs h_40 hW => ?_)
  have hW : zW Z s A [(o0, .inr (5, [.int th, .int dy, .int me, .int co, .int (nI np), .int ca, .int br, .int ml, .ref o1, .ref o2, .ref o3, .ref o4, .ref o5, .ref o6, .int le, .ref o7, .ref o8])), (o1, zI Z 3770 f), (o2, zI Z 6 Q0), (o3, zI Z 6 Q1), (o4, zI Z 6 Q2), (o5, zI Z 6 Q3), (qa_1, zI Z 7 (upd (upd (upd (fun _ => 0) 0 (Q0 pk)) 1 (Q1 pk)) 2 (bx_sum (sh f (290 * (1 + pk))) 290)))] _ _ := hW
  subst h_40
  refine z_iast hx hb hX hW 6 rfl (k := 3) (by omega) (by omega) dX5_told_43 (fun H locs hW => ?_)
  have hW : zW Z s A [(o0, .inr (5, [.int th, .int dy, .int me, .int co, .int (nI np), .int ca, .int br, .int ml, .ref o1, .ref o2, .ref o3, .ref o4, .ref o5, .ref o6, .int le, .ref o7, .ref o8])), (o1, zI Z 3770 f), (o2, zI Z 6 Q0), (o3, zI Z 6 Q1), (o4, zI Z 6 Q2), (o5, zI Z 6 Q3), (qa_1, zI Z 7 (upd (upd (upd (upd (fun _ => 0) 0 (Q0 pk)) 1 (Q1 pk)) 2 (bx_sum (sh f (290 * (1 + pk))) 290)) 3 (bx_sum (sh f (290 * (7 + pk))) 290)))] _ _ := hW
  refine lv_dup hx hb dX5_told_44 rfl ?_
  refine lv_iconst (v := nI 4) hx hb dX5_told_45 (by decide) ?_
  refine lv_aload_n hx hb dX5_told_46 rfl (lv_at hl 0 rfl) ?_
  refine lv_iload_n hx hb dX5_told_47 rfl (lv_at hl 1 rfl) ?_
  refine zc_i (va_runS (As := [.int (nI pk)]) (rest := [.ref o0, .int (nI 4), .ref qa_1, .ref qa_1]) hC (c_X5_formOf l Z pk  _) (va_cwS 1 hts gX5_told_X5_formOf rfl rfl rfl (by decide +kernel) ⟨Nat.le_of_ble_eq_true rfl, Nat.le_of_ble_eq_true rfl⟩) (zpreS hX hW [] rfl (by decide)) rfl rfl hl.1 rfl (lv_room (Nat.le_of_ble_eq_true rfl)) dX5_told_48 ⟨Nat.le_of_ble_eq_true rfl, Nat.le_of_ble_eq_true rfl⟩) hX hW [] rfl (by decide) (fun _ => rfl) (fun r_48 u_48 H locs h_48 hW => ?_)
  have hW : zW Z s A [(o0, .inr (5, [.int th, .int dy, .int me, .int co, .int (nI np), .int ca, .int br, .int ml, .ref o1, .ref o2, .ref o3, .ref o4, .ref o5, .ref o6, .int le, .ref o7, .ref o8])), (o1, zI Z 3770 f), (o2, zI Z 6 Q0), (o3, zI Z 6 Q1), (o4, zI Z 6 Q2), (o5, zI Z 6 Q3), (qa_1, zI Z 7 (upd (upd (upd (upd (fun _ => 0) 0 (Q0 pk)) 1 (Q1 pk)) 2 (bx_sum (sh f (290 * (1 + pk))) 290)) 3 (bx_sum (sh f (290 * (7 + pk))) 290)))] _ _ := hW
  subst h_48
  refine zc_i (va_runV (As := [.int (nI (290 * (7 + pk)))]) (rest := [.int (nI 4), .ref qa_1, .ref qa_1]) hC (c_X5_worn l Z o0 o1 o2 o3 o4 o5 o6 o7 o8 np th dy me co ca br ml le f (290 * (7 + pk)) (by omega) _) (cwV 1 hts gX5_told_X5_worn rfl rfl rfl (by decide +kernel) ⟨Nat.le_of_ble_eq_true rfl, Nat.le_of_ble_eq_true rfl⟩) (zpreV (ci := 5) (q0 := 0) hX hW rfl rfl [0, 1] rfl (by decide)) rfl rfl hl.1 rfl (lv_room (Nat.le_of_ble_eq_true rfl)) dX5_told_51 ⟨Nat.le_of_ble_eq_true rfl, Nat.le_of_ble_eq_true rfl⟩) hX hW [0, 1] rfl (by decide) (fun _ => rfl) (fun r_51 u_51 H locs h_51 hW => ?_)
  have hW : zW Z s A [(o0, .inr (5, [.int th, .int dy, .int me, .int co, .int (nI np), .int ca, .int br, .int ml, .ref o1, .ref o2, .ref o3, .ref o4, .ref o5, .ref o6, .int le, .ref o7, .ref o8])), (o1, zI Z 3770 f), (o2, zI Z 6 Q0), (o3, zI Z 6 Q1), (o4, zI Z 6 Q2), (o5, zI Z 6 Q3), (qa_1, zI Z 7 (upd (upd (upd (upd (fun _ => 0) 0 (Q0 pk)) 1 (Q1 pk)) 2 (bx_sum (sh f (290 * (1 + pk))) 290)) 3 (bx_sum (sh f (290 * (7 + pk))) 290)))] _ _ := hW
  subst h_51
  refine z_iast hx hb hX hW 6 rfl (k := 4) (by omega) (by omega) dX5_told_54 (fun H locs hW => ?_)
  have hW : zW Z s A [(o0, .inr (5, [.int th, .int dy, .int me, .int co, .int (nI np), .int ca, .int br, .int ml, .ref o1, .ref o2, .ref o3, .ref o4, .ref o5, .ref o6, .int le, .ref o7, .ref o8])), (o1, zI Z 3770 f), (o2, zI Z 6 Q0), (o3, zI Z 6 Q1), (o4, zI Z 6 Q2), (o5, zI Z 6 Q3), (qa_1, zI Z 7 (upd (upd (upd (upd (upd (fun _ => 0) 0 (Q0 pk)) 1 (Q1 pk)) 2 (bx_sum (sh f (290 * (1 + pk))) 290)) 3 (bx_sum (sh f (290 * (7 + pk))) 290)) 4 (bx_sum (wr (sh f (290 * (7 + pk)))) 290)))] _ _ := hW
  refine lv_dup hx hb dX5_told_55 rfl ?_
  refine lv_iconst (v := nI 5) hx hb dX5_told_56 (by decide) ?_
  refine lv_aload_n hx hb dX5_told_57 rfl (lv_at hl 0 rfl) ?_
  refine z_get (C := RX5) (T := TX5) (N := 17) hx hb hts mw_X5_told_2 hown hX hW 0 rfl rfl 11 (by decide) mw_X5_told_4 (fun _ h9 => h9) rfl dX5_told_58 ?_
  refine lv_iload_n hx hb dX5_told_61 rfl (lv_at hl 1 rfl) ?_
  refine z_iald hx hb hX hW 4 rfl (k := pk) (by omega) (by omega) dX5_told_62 ?_
  refine z_iast hx hb hX hW 6 rfl (k := 5) (by omega) (by omega) dX5_told_63 (fun H locs hW => ?_)
  have hW : zW Z s A [(o0, .inr (5, [.int th, .int dy, .int me, .int co, .int (nI np), .int ca, .int br, .int ml, .ref o1, .ref o2, .ref o3, .ref o4, .ref o5, .ref o6, .int le, .ref o7, .ref o8])), (o1, zI Z 3770 f), (o2, zI Z 6 Q0), (o3, zI Z 6 Q1), (o4, zI Z 6 Q2), (o5, zI Z 6 Q3), (qa_1, zI Z 7 (upd (upd (upd (upd (upd (upd (fun _ => 0) 0 (Q0 pk)) 1 (Q1 pk)) 2 (bx_sum (sh f (290 * (1 + pk))) 290)) 3 (bx_sum (sh f (290 * (7 + pk))) 290)) 4 (bx_sum (wr (sh f (290 * (7 + pk)))) 290)) 5 (Q2 pk)))] _ _ := hW
  refine lv_dup hx hb dX5_told_64 rfl ?_
  refine lv_bipush (v := nI 6) hx hb dX5_told_65 (by decide) ?_
  refine lv_aload_n hx hb dX5_told_67 rfl (lv_at hl 0 rfl) ?_
  refine z_get (C := RX5) (T := TX5) (N := 17) hx hb hts mw_X5_told_2 hown hX hW 0 rfl rfl 12 (by decide) mw_X5_told_5 (fun _ h9 => h9) rfl dX5_told_68 ?_
  refine lv_iload_n hx hb dX5_told_71 rfl (lv_at hl 1 rfl) ?_
  refine z_iald hx hb hX hW 5 rfl (k := pk) (by omega) (by omega) dX5_told_72 ?_
  refine z_iast hx hb hX hW 6 rfl (k := 6) (by omega) (by omega) dX5_told_73 (fun H locs hW => ?_)
  have hW : zW Z s A [(o0, .inr (5, [.int th, .int dy, .int me, .int co, .int (nI np), .int ca, .int br, .int ml, .ref o1, .ref o2, .ref o3, .ref o4, .ref o5, .ref o6, .int le, .ref o7, .ref o8])), (o1, zI Z 3770 f), (o2, zI Z 6 Q0), (o3, zI Z 6 Q1), (o4, zI Z 6 Q2), (o5, zI Z 6 Q3), (qa_1, zI Z 7 (upd (upd (upd (upd (upd (upd (upd (fun _ => 0) 0 (Q0 pk)) 1 (Q1 pk)) 2 (bx_sum (sh f (290 * (1 + pk))) 290)) 3 (bx_sum (sh f (290 * (7 + pk))) 290)) 4 (bx_sum (wr (sh f (290 * (7 + pk)))) 290)) 5 (Q2 pk)) 6 (Q3 pk)))] _ _ := hW
  refine lv_astore_n (lv' := [(3, .ref qa_1), (0, .ref o0), (1, .int (nI pk)), (2, .int (nI w))]) hx hb dX5_told_74 rfl hl (by decide) rfl (fun ls hl => ?_)
  rcases (show w = 0 ∨ w = 1 ∨ w = 2 ∨ w = 3 ∨ w = 4 ∨ w = 5 ∨ w = 6 by omega) with rfl | rfl | rfl | rfl | rfl | rfl | rfl
  · refine lv_aload_n hx hb dX5_told_75 rfl (lv_at hl 0 rfl) ?_
    refine lv_iload_n hx hb dX5_told_76 rfl (lv_at hl 3 rfl) ?_
    refine z_iald hx hb hX hW 6 rfl (k := 0) (by omega) (by omega) dX5_told_77 ?_
    have hW : zW Z s A [(o0, .inr (5, [.int th, .int dy, .int me, .int co, .int (nI np), .int ca, .int br, .int ml, .ref o1, .ref o2, .ref o3, .ref o4, .ref o5, .ref o6, .int le, .ref o7, .ref o8])), (o1, zI Z 3770 f), (o2, zI Z 6 Q0), (o3, zI Z 6 Q1), (o4, zI Z 6 Q2), (o5, zI Z 6 Q3)] _ _ := z_drop hW [0, 1, 2, 3, 4, 5] rfl (by decide)
    exact z_iret hx hb hr hlk hW () (rfl) (rfl) (by omega) (by omega) dX5_told_78
  · refine lv_aload_n hx hb dX5_told_75 rfl (lv_at hl 0 rfl) ?_
    refine lv_iload_n hx hb dX5_told_76 rfl (lv_at hl 3 rfl) ?_
    refine z_iald hx hb hX hW 6 rfl (k := 1) (by omega) (by omega) dX5_told_77 ?_
    have hW : zW Z s A [(o0, .inr (5, [.int th, .int dy, .int me, .int co, .int (nI np), .int ca, .int br, .int ml, .ref o1, .ref o2, .ref o3, .ref o4, .ref o5, .ref o6, .int le, .ref o7, .ref o8])), (o1, zI Z 3770 f), (o2, zI Z 6 Q0), (o3, zI Z 6 Q1), (o4, zI Z 6 Q2), (o5, zI Z 6 Q3)] _ _ := z_drop hW [0, 1, 2, 3, 4, 5] rfl (by decide)
    exact z_iret hx hb hr hlk hW () (rfl) (rfl) (by omega) (by omega) dX5_told_78
  · refine lv_aload_n hx hb dX5_told_75 rfl (lv_at hl 0 rfl) ?_
    refine lv_iload_n hx hb dX5_told_76 rfl (lv_at hl 3 rfl) ?_
    refine z_iald hx hb hX hW 6 rfl (k := 2) (by omega) (by omega) dX5_told_77 ?_
    have hW : zW Z s A [(o0, .inr (5, [.int th, .int dy, .int me, .int co, .int (nI np), .int ca, .int br, .int ml, .ref o1, .ref o2, .ref o3, .ref o4, .ref o5, .ref o6, .int le, .ref o7, .ref o8])), (o1, zI Z 3770 f), (o2, zI Z 6 Q0), (o3, zI Z 6 Q1), (o4, zI Z 6 Q2), (o5, zI Z 6 Q3)] _ _ := z_drop hW [0, 1, 2, 3, 4, 5] rfl (by decide)
    exact z_iret hx hb hr hlk hW () (rfl) (rfl) (by omega) (by omega) dX5_told_78
  · refine lv_aload_n hx hb dX5_told_75 rfl (lv_at hl 0 rfl) ?_
    refine lv_iload_n hx hb dX5_told_76 rfl (lv_at hl 3 rfl) ?_
    refine z_iald hx hb hX hW 6 rfl (k := 3) (by omega) (by omega) dX5_told_77 ?_
    have hW : zW Z s A [(o0, .inr (5, [.int th, .int dy, .int me, .int co, .int (nI np), .int ca, .int br, .int ml, .ref o1, .ref o2, .ref o3, .ref o4, .ref o5, .ref o6, .int le, .ref o7, .ref o8])), (o1, zI Z 3770 f), (o2, zI Z 6 Q0), (o3, zI Z 6 Q1), (o4, zI Z 6 Q2), (o5, zI Z 6 Q3)] _ _ := z_drop hW [0, 1, 2, 3, 4, 5] rfl (by decide)
    exact z_iret hx hb hr hlk hW () (rfl) (rfl) (by omega) (by omega) dX5_told_78
  · refine lv_aload_n hx hb dX5_told_75 rfl (lv_at hl 0 rfl) ?_
    refine lv_iload_n hx hb dX5_told_76 rfl (lv_at hl 3 rfl) ?_
    refine z_iald hx hb hX hW 6 rfl (k := 4) (by omega) (by omega) dX5_told_77 ?_
    have hW : zW Z s A [(o0, .inr (5, [.int th, .int dy, .int me, .int co, .int (nI np), .int ca, .int br, .int ml, .ref o1, .ref o2, .ref o3, .ref o4, .ref o5, .ref o6, .int le, .ref o7, .ref o8])), (o1, zI Z 3770 f), (o2, zI Z 6 Q0), (o3, zI Z 6 Q1), (o4, zI Z 6 Q2), (o5, zI Z 6 Q3)] _ _ := z_drop hW [0, 1, 2, 3, 4, 5] rfl (by decide)
    exact z_iret hx hb hr hlk hW () (rfl) (rfl) (by omega) (by omega) dX5_told_78
  · refine lv_aload_n hx hb dX5_told_75 rfl (lv_at hl 0 rfl) ?_
    refine lv_iload_n hx hb dX5_told_76 rfl (lv_at hl 3 rfl) ?_
    refine z_iald hx hb hX hW 6 rfl (k := 5) (by omega) (by omega) dX5_told_77 ?_
    have hW : zW Z s A [(o0, .inr (5, [.int th, .int dy, .int me, .int co, .int (nI np), .int ca, .int br, .int ml, .ref o1, .ref o2, .ref o3, .ref o4, .ref o5, .ref o6, .int le, .ref o7, .ref o8])), (o1, zI Z 3770 f), (o2, zI Z 6 Q0), (o3, zI Z 6 Q1), (o4, zI Z 6 Q2), (o5, zI Z 6 Q3)] _ _ := z_drop hW [0, 1, 2, 3, 4, 5] rfl (by decide)
    exact z_iret hx hb hr hlk hW () (rfl) (rfl) (by omega) (by omega) dX5_told_78
  · refine lv_aload_n hx hb dX5_told_75 rfl (lv_at hl 0 rfl) ?_
    refine lv_iload_n hx hb dX5_told_76 rfl (lv_at hl 3 rfl) ?_
    refine z_iald hx hb hX hW 6 rfl (k := 6) (by omega) (by omega) dX5_told_77 ?_
    have hW : zW Z s A [(o0, .inr (5, [.int th, .int dy, .int me, .int co, .int (nI np), .int ca, .int br, .int ml, .ref o1, .ref o2, .ref o3, .ref o4, .ref o5, .ref o6, .int le, .ref o7, .ref o8])), (o1, zI Z 3770 f), (o2, zI Z 6 Q0), (o3, zI Z 6 Q1), (o4, zI Z 6 Q2), (o5, zI Z 6 Q3)] _ _ := z_drop hW [0, 1, 2, 3, 4, 5] rfl (by decide)
    exact z_iret hx hb hr hlk hW () (rfl) (rfl) (by omega) (by omega) dX5_told_78
