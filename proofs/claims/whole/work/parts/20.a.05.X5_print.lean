theorem mw_X5_print_0 : Cond.fieldLink RX5 38 "TypeFoundryModel" "thrown" "I" ∈ wsX5_print := by decide +kernel
theorem mw_X5_print_1 : ∀ w ∈ wsX50, w ∈ wsX5_print := by decide +kernel
theorem mw_X5_print_2 : Cond.fieldLink RX5 23 "TypeFoundryModel" "copies" "[I" ∈ wsX5_print := by decide +kernel
theorem mw_X5_print_3 : Cond.fieldLink RX5 116 "TypeFoundryModel" "broken" "I" ∈ wsX5_print := by decide +kernel
theorem mw_X5_print_4 : Cond.fieldLink RX5 13 "TypeFoundryModel" "store" "[I" ∈ wsX5_print := by decide +kernel
abbrev wp_X5_print (Z : zT) (o0 o1 o2 o3 o4 o5 o6 o7 o8 np : Nat) (th dy me co ca br ml le : Int32) (S E Tk Lf : Nat → Int32) (F G pn : Nat → Nat → Int32) (pv cv : Int32) : Int32 × Int32 × (Nat → Int32) × (Nat → Int32) × (Nat → Int32) × (Nat → Int32) × (Nat → Int32) → va_W := fun (u : Int32 × Int32 × (Nat → Int32) × (Nat → Int32) × (Nat → Int32) × (Nat → Int32) × (Nat → Int32)) => match u with | (th_1, br_1, f_1, q0_1, q1_1, q2_1, q3_1) => [(o0, .inr (5, [.int th_1, .int dy, .int me, .int co, .int (nI np), .int ca, .int br_1, .int ml, .ref o1, .ref o2, .ref o3, .ref o4, .ref o5, .ref o6, .int le, .ref o7, .ref o8])), (o1, zI Z 3770 f_1), (o2, zI Z 6 q0_1), (o3, zI Z 6 q1_1), (o4, zI Z 6 q2_1), (o5, zI Z 6 q3_1), (o6, zI Z 6 E), (o7, zI Z 29 Tk), (o8, zI Z 29 Lf)]
abbrev po_X5_print (Z : zT) (o0 o1 o2 o3 o4 o5 o6 o7 o8 np : Nat) (th dy me co ca br ml le : Int32) (S E Tk Lf : Nat → Int32) (F G pn : Nat → Nat → Int32) (pv cv : Int32) : Int32 → Int32 × Int32 × (Nat → Int32) × (Nat → Int32) × (Nat → Int32) × (Nat → Int32) × (Nat → Int32) → Prop := fun (r : Int32) (u : Int32 × Int32 × (Nat → Int32) × (Nat → Int32) × (Nat → Int32) × (Nat → Int32) × (Nat → Int32)) => match u with | (th_1, br_1, f_1, q0_1, q1_1, q2_1, q3_1) => (th_1 = nI 0 ∧ 0 = cdx (¬ isP pv np) (¬ inR cv 1 1000) (bx_sum (G (sn pv)) 290 = 0) ∧ r = (prX (sn cv / 50) (G (sn pv))).1 ∧ br_1 = br + (prX (sn cv / 50) (G (sn pv))).1 ∧ f_1 = stF S F (up G (sn pv) (prX (sn cv / 50) (G (sn pv))).2) ∧ q0_1 = qF (up pn (sn pv) (q4 (pn (sn pv) 0) (pn (sn pv) 1) (pn (sn pv) 2 + cv) (pn (sn pv) 3))) 0 ∧ q1_1 = qF (up pn (sn pv) (q4 (pn (sn pv) 0) (pn (sn pv) 1) (pn (sn pv) 2 + cv) (pn (sn pv) 3))) 1 ∧ q2_1 = qF (up pn (sn pv) (q4 (pn (sn pv) 0) (pn (sn pv) 1) (pn (sn pv) 2 + cv) (pn (sn pv) 3))) 2 ∧ q3_1 = qF (up pn (sn pv) (q4 (pn (sn pv) 0) (pn (sn pv) 1) (pn (sn pv) 2 + cv) (pn (sn pv) 3))) 3) ∨ (∃ k9, 1 ≤ k9 ∧ k9 = cdx (¬ isP pv np) (¬ inR cv 1 1000) (bx_sum (G (sn pv)) 290 = 0) ∧ th_1 = nI k9 ∧ br_1 = br ∧ f_1 = stF S F G ∧ q0_1 = qF pn 0 ∧ q1_1 = qF pn 1 ∧ q2_1 = qF pn 2 ∧ q3_1 = qF pn 3)
abbrev rm_X5_print : Room := { frames := 2, cells := 0, slots := 0, locals := 43 }
set_option maxHeartbeats 4000000 in
set_option maxRecDepth 100000 in
theorem c_X5_print (l : Launch) (Z : zT) (o0 o1 o2 o3 o4 o5 o6 o7 o8 np : Nat) (th dy me co ca br ml le : Int32) (S E Tk Lf : Nat → Int32) (F G pn : Nat → Nat → Int32) (pv cv : Int32) (hG : GA S F G) (hnp : np ≤ 6) : zMet l yX5_print wsX5_print rm_X5_print [.ref o0, .int pv, .int cv] Z [(o0, .inr (5, [.int th, .int dy, .int me, .int co, .int (nI np), .int ca, .int br, .int ml, .ref o1, .ref o2, .ref o3, .ref o4, .ref o5, .ref o6, .int le, .ref o7, .ref o8])), (o1, zI Z 3770 (stF S F G)), (o2, zI Z 6 (qF pn 0)), (o3, zI Z 6 (qF pn 1)), (o4, zI Z 6 (qF pn 2)), (o5, zI Z 6 (qF pn 3)), (o6, zI Z 6 E), (o7, zI Z 29 Tk), (o8, zI Z 29 Lf)] (zQi Z (po_X5_print Z o0 o1 o2 o3 o4 o5 o6 o7 o8 np th dy me co ca br ml le S E Tk Lf F G pn pv cv) (wp_X5_print Z o0 o1 o2 o3 o4 o5 o6 o7 o8 np th dy me co ca br ml le S E Tk Lf F G pn pv cv)) 0 0 := by
  refine zstart (cc := cX5_print) (maxL := 8) (ret := (some .int)) (by decide) rfl (Nat.le_of_ble_eq_true rfl) ?_
  intro p e s m below meth c ls A hx hb hr hC hlk hnm hX hW hl
  have hml := hC.2.2.1
  have hown : s.vm.findClass RX5 = some m.cls := hC.2.2.2.1
  have hts := hC.2.2.2.2
  have hl : lv_has ls 8 [(0, .ref o0), (1, .int pv), (2, .int cv)] := hl
  refine lv_aload_n hx hb dX5_print_0 rfl (lv_at hl 0 rfl) ?_
  refine lv_iconst (v := nI 0) hx hb dX5_print_1 (by decide) ?_
  refine z_put (C := RX5) (T := TX5) (N := 17) (v := .int (nI 0)) (ty := .int) hx hb hts mw_X5_print_1 tyX5 tyX5_ok nmX5 hown hX hW 0 rfl rfl 0 (by decide) mw_X5_print_0 (fun _ h9 => h9) rfl (by decide +kernel) rfl rfl (Nat.le_of_ble_eq_true rfl) dX5_print_2 (fun H locs hW => ?_)
  have hW : zW Z s A [(o0, .inr (5, [.int (nI 0), .int dy, .int me, .int co, .int (nI np), .int ca, .int br, .int ml, .ref o1, .ref o2, .ref o3, .ref o4, .ref o5, .ref o6, .int le, .ref o7, .ref o8])), (o1, zI Z 3770 (stF S F G)), (o2, zI Z 6 (qF pn 0)), (o3, zI Z 6 (qF pn 1)), (o4, zI Z 6 (qF pn 2)), (o5, zI Z 6 (qF pn 3)), (o6, zI Z 6 E), (o7, zI Z 29 Tk), (o8, zI Z 29 Lf)] _ _ := hW
  refine lv_aload_n hx hb dX5_print_5 rfl (lv_at hl 0 rfl) ?_
  refine lv_iload_n hx hb dX5_print_6 rfl (lv_at hl 1 rfl) ?_
  refine zc_i (va_runV (As := [.int pv]) (rest := []) hC (c_X5_isPrinter l Z o0 o1 o2 o3 o4 o5 o6 o7 o8 np (nI 0) dy me co ca br ml le pv (by omega) _) (cwV 1 hts gX5_print_X5_isPrinter rfl rfl rfl (by decide +kernel) ⟨Nat.le_of_ble_eq_true rfl, Nat.le_of_ble_eq_true rfl⟩) (zpreV (ci := 5) (q0 := 0) hX hW rfl rfl [0] rfl (by decide)) rfl rfl hl.1 rfl (lv_room (Nat.le_of_ble_eq_true rfl)) dX5_print_7 ⟨Nat.le_of_ble_eq_true rfl, Nat.le_of_ble_eq_true rfl⟩) hX hW [0] rfl (by decide) (fun _ => rfl) (fun r_7 u_7 H locs h_7 hW => ?_)
  have hW : zW Z s A [(o0, .inr (5, [.int (nI 0), .int dy, .int me, .int co, .int (nI np), .int ca, .int br, .int ml, .ref o1, .ref o2, .ref o3, .ref o4, .ref o5, .ref o6, .int le, .ref o7, .ref o8])), (o1, zI Z 3770 (stF S F G)), (o2, zI Z 6 (qF pn 0)), (o3, zI Z 6 (qF pn 1)), (o4, zI Z 6 (qF pn 2)), (o5, zI Z 6 (qF pn 3)), (o6, zI Z 6 E), (o7, zI Z 29 Tk), (o8, zI Z 29 Lf)] _ _ := hW
  subst h_7
  refine lv_if_ne (tgt := 19) hx hb dX5_print_10 (by decide) (fun c_10 => ?_) (fun c_10 => ?_)
  · have hP : isP pv np := bI_n c_10
    have hP1 := hP.1
    have hl : lv_has ls 8 [(0, .ref o0), (1, .int (nI (sn pv))), (2, .int cv)] := by rw [← hP.2]; exact hl
    have hP6 : sn pv < 6 := by omega
    refine lv_iload_n hx hb dX5_print_19 rfl (lv_at hl 2 rfl) ?_
    refine lv_iconst (v := nI 1) hx hb dX5_print_20 (by decide) ?_
    refine lv_sipush (v := nI 1000) hx hb dX5_print_21 (by decide) ?_
    refine zc_i (va_runS (As := [.int cv, .int (nI 1), .int (nI 1000)]) (rest := []) hC (c_X5_isIn l Z cv (nI 1) (nI 1000)  _) (va_cwS 3 hts gX5_print_X5_isIn rfl rfl rfl (by decide +kernel) ⟨Nat.le_of_ble_eq_true rfl, Nat.le_of_ble_eq_true rfl⟩) (zpreS hX hW [] rfl (by decide)) rfl rfl hl.1 rfl (lv_room (Nat.le_of_ble_eq_true rfl)) dX5_print_24 ⟨Nat.le_of_ble_eq_true rfl, Nat.le_of_ble_eq_true rfl⟩) hX hW [] rfl (by decide) (fun _ => rfl) (fun r_24 u_24 H locs h_24 hW => ?_)
    have hW : zW Z s A [(o0, .inr (5, [.int (nI 0), .int dy, .int me, .int co, .int (nI np), .int ca, .int br, .int ml, .ref o1, .ref o2, .ref o3, .ref o4, .ref o5, .ref o6, .int le, .ref o7, .ref o8])), (o1, zI Z 3770 (stF S F G)), (o2, zI Z 6 (qF pn 0)), (o3, zI Z 6 (qF pn 1)), (o4, zI Z 6 (qF pn 2)), (o5, zI Z 6 (qF pn 3)), (o6, zI Z 6 E), (o7, zI Z 29 Tk), (o8, zI Z 29 Lf)] _ _ := hW
    subst h_24
    refine lv_if_ne (tgt := 36) hx hb dX5_print_27 (by decide) (fun c_27 => ?_) (fun c_27 => ?_)
    · have hR9 : inR cv 1 1000 := bI_n c_27
      obtain ⟨hR1, hR2, hR3⟩ := inR_sn hR9 (by omega) (by omega)
      have hl : lv_has ls 8 [(0, .ref o0), (1, .int (nI (sn pv))), (2, .int (nI (sn cv)))] := by rw [← hR3]; exact hl
      refine lv_iload_n hx hb dX5_print_36 rfl (lv_at hl 1 rfl) ?_
      refine zc_i (va_runS (As := [.int (nI (sn pv))]) (rest := []) hC (c_X5_formOf l Z (sn pv)  _) (va_cwS 1 hts gX5_print_X5_formOf rfl rfl rfl (by decide +kernel) ⟨Nat.le_of_ble_eq_true rfl, Nat.le_of_ble_eq_true rfl⟩) (zpreS hX hW [] rfl (by decide)) rfl rfl hl.1 rfl (lv_room (Nat.le_of_ble_eq_true rfl)) dX5_print_37 ⟨Nat.le_of_ble_eq_true rfl, Nat.le_of_ble_eq_true rfl⟩) hX hW [] rfl (by decide) (fun _ => rfl) (fun r_37 u_37 H locs h_37 hW => ?_)
      have hW : zW Z s A [(o0, .inr (5, [.int (nI 0), .int dy, .int me, .int co, .int (nI np), .int ca, .int br, .int ml, .ref o1, .ref o2, .ref o3, .ref o4, .ref o5, .ref o6, .int le, .ref o7, .ref o8])), (o1, zI Z 3770 (stF S F G)), (o2, zI Z 6 (qF pn 0)), (o3, zI Z 6 (qF pn 1)), (o4, zI Z 6 (qF pn 2)), (o5, zI Z 6 (qF pn 3)), (o6, zI Z 6 E), (o7, zI Z 29 Tk), (o8, zI Z 29 Lf)] _ _ := hW
      subst h_37
      refine lv_istore_n (lv' := [(3, .int (nI (290 * (7 + (sn pv))))), (0, .ref o0), (1, .int (nI (sn pv))), (2, .int (nI (sn cv)))]) hx hb dX5_print_40 rfl hl (by decide) rfl (fun ls hl => ?_)
      refine lv_aload_n hx hb dX5_print_41 rfl (lv_at hl 1 rfl) ?_
      refine lv_iload_n hx hb dX5_print_42 rfl (lv_at hl 0 rfl) ?_
      refine zc_i (va_runV (As := [.int (nI (290 * (7 + (sn pv))))]) (rest := []) hC (c_X5_all l Z o0 o1 o2 o3 o4 o5 o6 o7 o8 np (nI 0) dy me co ca br ml le (stF S F G) (290 * (7 + (sn pv))) (by omega) _) (cwV 1 hts gX5_print_X5_all rfl rfl rfl (by decide +kernel) ⟨Nat.le_of_ble_eq_true rfl, Nat.le_of_ble_eq_true rfl⟩) (zpreV (ci := 5) (q0 := 0) hX hW rfl rfl [0, 1] rfl (by decide)) rfl rfl hl.1 rfl (lv_room (Nat.le_of_ble_eq_true rfl)) dX5_print_43 ⟨Nat.le_of_ble_eq_true rfl, Nat.le_of_ble_eq_true rfl⟩) hX hW [0, 1] rfl (by decide) (fun _ => rfl) (fun r_43 u_43 H locs h_43 hW => ?_)
      have hW : zW Z s A [(o0, .inr (5, [.int (nI 0), .int dy, .int me, .int co, .int (nI np), .int ca, .int br, .int ml, .ref o1, .ref o2, .ref o3, .ref o4, .ref o5, .ref o6, .int le, .ref o7, .ref o8])), (o1, zI Z 3770 (stF S F G)), (o2, zI Z 6 (qF pn 0)), (o3, zI Z 6 (qF pn 1)), (o4, zI Z 6 (qF pn 2)), (o5, zI Z 6 (qF pn 3)), (o6, zI Z 6 E), (o7, zI Z 29 Tk), (o8, zI Z 29 Lf)] _ _ := hW
      subst h_43
      refine zw_topi (y := (bx_sum (G (sn pv)) 290)) (by rw [sh_G hP6 (hG.2.2.1 _)]) ?_
      refine lv_if_ne (tgt := 55) hx hb dX5_print_46 (by decide) (fun c_46 => ?_) (fun c_46 => ?_)
      · refine lv_iload_n hx hb dX5_print_55 rfl (lv_at hl 3 rfl) ?_
        refine lv_bipush (v := nI 50) hx hb dX5_print_56 (by decide) ?_
        refine lv_idiv hx hb dX5_print_58 (by decide) ?_
        refine zw_topi (pk_div (by omega) (by omega) (by omega)) ?_
        refine lv_istore (lv' := [(4, .int (nI ((sn cv) / 50))), (3, .int (nI (290 * (7 + (sn pv))))), (0, .ref o0), (1, .int (nI (sn pv))), (2, .int (nI (sn cv)))]) hx hb dX5_print_59 hl (by decide) rfl (fun ls hl => ?_)
        refine lv_iconst (v := nI 0) hx hb dX5_print_61 (by decide) ?_
        refine lv_istore (lv' := [(5, .int (nI 0)), (4, .int (nI ((sn cv) / 50))), (3, .int (nI (290 * (7 + (sn pv))))), (0, .ref o0), (1, .int (nI (sn pv))), (2, .int (nI (sn cv)))]) hx hb dX5_print_62 hl (by decide) rfl (fun ls hl => ?_)
        refine lv_sipush (v := nI 289) hx hb dX5_print_64 (by decide) ?_
        refine lv_istore (lv' := [(6, .int (nI 289)), (5, .int (nI 0)), (4, .int (nI ((sn cv) / 50))), (3, .int (nI (290 * (7 + (sn pv))))), (0, .ref o0), (1, .int (nI (sn pv))), (2, .int (nI (sn cv)))]) hx hb dX5_print_67 hl (by decide) rfl (fun ls hl => ?_)
        have loop_69 : ∀ (n : Nat) (j : Nat) (K : Nat → Int32) (y : Int32), (j ≤ 290) → (sn cv / 50 = 0 → j = 0) → (K = stF S F (up G (sn pv) (prS (sn cv / 50) (G (sn pv)) j).2)) → (y = (prS (sn cv / 50) (G (sn pv)) j).1) → (290 - j < n) → ∀ (H : Heap) (locs : List Loc) (ls : Array Slot), zW Z s A [(o0, .inr (5, [.int (nI 0), .int dy, .int me, .int co, .int (nI np), .int ca, .int br, .int ml, .ref o1, .ref o2, .ref o3, .ref o4, .ref o5, .ref o6, .int le, .ref o7, .ref o8])), (o1, zI Z 3770 K), (o2, zI Z 6 (qF pn 0)), (o3, zI Z 6 (qF pn 1)), (o4, zI Z 6 (qF pn 2)), (o5, zI Z 6 (qF pn 3)), (o6, zI Z 6 E), (o7, zI Z 29 Tk), (o8, zI Z 29 Lf)] H locs → lv_has ls 8 [(6, .int (wk 290 j)), (5, .int y), (4, .int (nI ((sn cv) / 50))), (3, .int (nI (290 * (7 + (sn pv))))), (0, .ref o0), (1, .int (nI (sn pv))), (2, .int (nI (sn cv)))] → W p l e rm_X5_print s m ([.ref o0, .int pv, .int cv] : List Value).toArray below meth c H locs 0 0 (MQ below (zQi Z (po_X5_print Z o0 o1 o2 o3 o4 o5 o6 o7 o8 np th dy me co ca br ml le S E Tk Lf F G pn pv cv) (wp_X5_print Z o0 o1 o2 o3 o4 o5 o6 o7 o8 np th dy me co ca br ml le S E Tk Lf F G pn pv cv) A) ([.ref o0, .int pv, .int cv] : List Value).toArray s 0 0 A) (F0 m 69 ls []) := by
          intro n
          induction n with
          | zero =>
            intro j K y hj hm0 hK hy9 hm
            exact absurd hm (Nat.not_lt_zero _)
          | succ n ih =>
            intro j K y hj hm0 hK hy9 hm H locs ls hW hl
            have ih_69 := ih
            rcases Nat.lt_or_ge j 290 with hj9 | hj9
            · rw [wk_lt hj9] at hl
              obtain ⟨hp1, hp2, hp3⟩ := pr_K (K := G) hP6 hj9 hK
              have hl : lv_has ls 8 [(6, .int (nI (290 - 1 - j))), (5, .int y), (4, .int (nI ((sn cv) / 50))), (3, .int (nI (290 * (7 + (sn pv))))), (0, .ref o0), (1, .int (nI (sn pv))), (2, .int (nI (sn cv)))] := hl
              refine lv_iload hx hb dX5_print_69 (lv_at hl 0 rfl) ?_
              refine zn_if_lt (tgt := 146) (a := (290 - 1 - j)) hx hb (by omega) dX5_print_71 (by decide) ?_
              refine lv_iload hx hb dX5_print_74 (lv_at hl 2 rfl) ?_
              refine zn_if_le (tgt := 146) (a := ((sn cv) / 50)) hx hb (by omega) dX5_print_76 (by decide) (fun c_76 => ?_) (fun c_76 => ?_)
              · have hj0 := hm0 c_76
                have hx5 : prX (sn cv / 50) (G (sn pv)) = prS (sn cv / 50) (G (sn pv)) j := by unfold prX; rw [if_pos c_76, hj0]; rfl
                refine lv_aload_n hx hb dX5_print_146 rfl (lv_at hl 4 rfl) ?_
                refine z_get (C := RX5) (T := TX5) (N := 17) hx hb hts mw_X5_print_1 hown hX hW 0 rfl rfl 11 (by decide) mw_X5_print_2 (fun _ h9 => h9) rfl dX5_print_147 ?_
                refine lv_iload_n hx hb dX5_print_150 rfl (lv_at hl 5 rfl) ?_
                refine lv_dup2_11 hx hb dX5_print_151 rfl rfl ?_
                refine z_iald hx hb hX hW 4 rfl (k := (sn pv)) (by omega) (by omega) dX5_print_152 ?_
                refine zw_topi (y := (pn (sn pv) 2)) (rfl) ?_
                refine lv_iload_n hx hb dX5_print_153 rfl (lv_at hl 6 rfl) ?_
                refine lv_iadd hx hb dX5_print_154 ?_
                refine z_iast hx hb hX hW 4 rfl (k := (sn pv)) (by omega) (by omega) dX5_print_155 (fun H locs hW => ?_)
                have hW : zW Z s A [(o0, .inr (5, [.int (nI 0), .int dy, .int me, .int co, .int (nI np), .int ca, .int br, .int ml, .ref o1, .ref o2, .ref o3, .ref o4, .ref o5, .ref o6, .int le, .ref o7, .ref o8])), (o1, zI Z 3770 K), (o2, zI Z 6 (qF pn 0)), (o3, zI Z 6 (qF pn 1)), (o4, zI Z 6 (upd (qF pn 2) (sn pv) ((pn (sn pv) 2) + (nI (sn cv))))), (o5, zI Z 6 (qF pn 3)), (o6, zI Z 6 E), (o7, zI Z 29 Tk), (o8, zI Z 29 Lf)] _ _ := hW
                refine lv_aload_n hx hb dX5_print_156 rfl (lv_at hl 4 rfl) ?_
                refine lv_dup hx hb dX5_print_157 rfl ?_
                refine z_get (C := RX5) (T := TX5) (N := 17) hx hb hts mw_X5_print_1 hown hX hW 0 rfl rfl 6 (by decide) mw_X5_print_3 (fun _ h9 => h9) rfl dX5_print_158 ?_
                refine lv_iload hx hb dX5_print_161 (lv_at hl 1 rfl) ?_
                refine lv_iadd hx hb dX5_print_163 ?_
                refine z_put (C := RX5) (T := TX5) (N := 17) (v := .int (br + y)) (ty := .int) hx hb hts mw_X5_print_1 tyX5 tyX5_ok nmX5 hown hX hW 0 rfl rfl 6 (by decide) mw_X5_print_3 (fun _ h9 => h9) rfl (by decide +kernel) rfl rfl (Nat.le_of_ble_eq_true rfl) dX5_print_164 (fun H locs hW => ?_)
                have hW : zW Z s A [(o0, .inr (5, [.int (nI 0), .int dy, .int me, .int co, .int (nI np), .int ca, .int (br + y), .int ml, .ref o1, .ref o2, .ref o3, .ref o4, .ref o5, .ref o6, .int le, .ref o7, .ref o8])), (o1, zI Z 3770 K), (o2, zI Z 6 (qF pn 0)), (o3, zI Z 6 (qF pn 1)), (o4, zI Z 6 (upd (qF pn 2) (sn pv) ((pn (sn pv) 2) + (nI (sn cv))))), (o5, zI Z 6 (qF pn 3)), (o6, zI Z 6 E), (o7, zI Z 29 Tk), (o8, zI Z 29 Lf)] _ _ := hW
                refine lv_iload hx hb dX5_print_167 (lv_at hl 1 rfl) ?_
                exact z_iret hx hb hr hlk hW (nI 0, br + y, K, qF pn 0, qF pn 1, upd (qF pn 2) (sn pv) ((pn (sn pv) 2) + (nI (sn cv))), qF pn 3) (by unfold po_X5_print; exact Or.inl ⟨rfl, cdx_0 (fun h6 => h6 hP) (fun h6 => h6 hR9) (fun h6 => c_46 h6), by rw [hx5, ← hy9], by rw [hx5, ← hy9], by rw [hx5]; exact hK, qs_0 rfl, qs_1 rfl, (by rw [show pn (sn pv) 2 + cv = pn (sn pv) 2 + nI (sn cv) by rw [← hR3]]; exact qf_2), qs_3 rfl⟩) (rfl) (by omega) (by omega) dX5_print_169
              · refine lv_aload_n hx hb dX5_print_79 rfl (lv_at hl 4 rfl) ?_
                refine z_get (C := RX5) (T := TX5) (N := 17) hx hb hts mw_X5_print_1 hown hX hW 0 rfl rfl 8 (by decide) mw_X5_print_4 (fun _ h9 => h9) rfl dX5_print_80 ?_
                refine lv_iload_n hx hb dX5_print_83 rfl (lv_at hl 3 rfl) ?_
                refine lv_iload hx hb dX5_print_84 (lv_at hl 0 rfl) ?_
                refine lv_iadd hx hb dX5_print_86 ?_
                refine zw_topi (nI_add _ _) ?_
                refine z_iald hx hb hX hW 1 rfl (k := ((290 * (7 + (sn pv))) + (290 - 1 - j))) (by omega) (by omega) dX5_print_87 ?_
                refine zw_topi (y := ((prS (sn cv / 50) (G (sn pv)) j).2 (290 - 1 - j))) (hp1) ?_
                refine lv_istore (lv' := [(7, .int ((prS (sn cv / 50) (G (sn pv)) j).2 (290 - 1 - j))), (6, .int (nI (290 - 1 - j))), (5, .int y), (4, .int (nI ((sn cv) / 50))), (3, .int (nI (290 * (7 + (sn pv))))), (0, .ref o0), (1, .int (nI (sn pv))), (2, .int (nI (sn cv)))]) hx hb dX5_print_88 hl (by decide) rfl (fun ls hl => ?_)
                refine lv_aload_n hx hb dX5_print_90 rfl (lv_at hl 5 rfl) ?_
                refine z_get (C := RX5) (T := TX5) (N := 17) hx hb hts mw_X5_print_1 hown hX hW 0 rfl rfl 8 (by decide) mw_X5_print_4 (fun _ h9 => h9) rfl dX5_print_91 ?_
                refine lv_iload_n hx hb dX5_print_94 rfl (lv_at hl 4 rfl) ?_
                refine lv_iload hx hb dX5_print_95 (lv_at hl 1 rfl) ?_
                refine lv_iadd hx hb dX5_print_97 ?_
                refine zw_topi (nI_add _ _) ?_
                refine lv_iconst (v := nI 0) hx hb dX5_print_98 (by decide) ?_
                refine z_iast hx hb hX hW 1 rfl (k := ((290 * (7 + (sn pv))) + (290 - 1 - j))) (by omega) (by omega) dX5_print_99 (fun H locs hW => ?_)
                have hW : zW Z s A [(o0, .inr (5, [.int (nI 0), .int dy, .int me, .int co, .int (nI np), .int ca, .int br, .int ml, .ref o1, .ref o2, .ref o3, .ref o4, .ref o5, .ref o6, .int le, .ref o7, .ref o8])), (o1, zI Z 3770 (upd K ((290 * (7 + (sn pv))) + (290 - 1 - j)) (nI 0))), (o2, zI Z 6 (qF pn 0)), (o3, zI Z 6 (qF pn 1)), (o4, zI Z 6 (qF pn 2)), (o5, zI Z 6 (qF pn 3)), (o6, zI Z 6 E), (o7, zI Z 29 Tk), (o8, zI Z 29 Lf)] _ _ := hW
                refine lv_iload hx hb dX5_print_100 (lv_at hl 1 rfl) ?_
                refine lv_bipush (v := nI 10) hx hb dX5_print_102 (by decide) ?_
                refine lv_irem hx hb dX5_print_104 (by decide) ?_
                refine zw_topi (pk_rem (by omega) (by omega) (by omega)) ?_
                refine lv_iload hx hb dX5_print_105 (lv_at hl 3 rfl) ?_
                refine lv_iadd hx hb dX5_print_107 ?_
                refine zw_topi (nI_add _ _) ?_
                refine lv_bipush (v := nI 9) hx hb dX5_print_108 (by decide) ?_
                refine zn_icmp_le (tgt := 123) (a := (((290 - 1 - j) % 10) + ((sn cv) / 50))) (b := 9) hx hb (by omega) (by omega) dX5_print_110 (by decide) (fun c_110 => ?_) (fun c_110 => ?_)
                · refine lv_aload_n hx hb dX5_print_123 rfl (lv_at hl 5 rfl) ?_
                  refine z_get (C := RX5) (T := TX5) (N := 17) hx hb hts mw_X5_print_1 hown hX hW 0 rfl rfl 8 (by decide) mw_X5_print_4 (fun _ h9 => h9) rfl dX5_print_124 ?_
                  refine lv_iload_n hx hb dX5_print_127 rfl (lv_at hl 4 rfl) ?_
                  refine lv_iload hx hb dX5_print_128 (lv_at hl 1 rfl) ?_
                  refine lv_iadd hx hb dX5_print_130 ?_
                  refine zw_topi (nI_add _ _) ?_
                  refine lv_iload hx hb dX5_print_131 (lv_at hl 3 rfl) ?_
                  refine lv_iadd hx hb dX5_print_133 ?_
                  refine zw_topi (nI_add _ _) ?_
                  refine lv_dup2_11 hx hb dX5_print_134 rfl rfl ?_
                  refine z_iald hx hb hX hW 1 rfl (k := (((290 * (7 + (sn pv))) + (290 - 1 - j)) + ((sn cv) / 50))) (by omega) (by omega) dX5_print_135 ?_
                  refine lv_iload hx hb dX5_print_136 (lv_at hl 0 rfl) ?_
                  refine lv_iadd hx hb dX5_print_138 ?_
                  refine z_iast hx hb hX hW 1 rfl (k := (((290 * (7 + (sn pv))) + (290 - 1 - j)) + ((sn cv) / 50))) (by omega) (by omega) dX5_print_139 (fun H locs hW => ?_)
                  have hW : zW Z s A [(o0, .inr (5, [.int (nI 0), .int dy, .int me, .int co, .int (nI np), .int ca, .int br, .int ml, .ref o1, .ref o2, .ref o3, .ref o4, .ref o5, .ref o6, .int le, .ref o7, .ref o8])), (o1, zI Z 3770 (upd (upd K ((290 * (7 + (sn pv))) + (290 - 1 - j)) (nI 0)) (((290 * (7 + (sn pv))) + (290 - 1 - j)) + ((sn cv) / 50)) (((upd K ((290 * (7 + (sn pv))) + (290 - 1 - j)) (nI 0)) (((290 * (7 + (sn pv))) + (290 - 1 - j)) + ((sn cv) / 50))) + ((prS (sn cv / 50) (G (sn pv)) j).2 (290 - 1 - j))))), (o2, zI Z 6 (qF pn 0)), (o3, zI Z 6 (qF pn 1)), (o4, zI Z 6 (qF pn 2)), (o5, zI Z 6 (qF pn 3)), (o6, zI Z 6 E), (o7, zI Z 29 Tk), (o8, zI Z 29 Lf)] _ _ := hW
                  refine lv_iinc (v := wk 290 (j + 1)) (lv' := [(6, .int (wk 290 (j + 1))), (7, .int ((prS (sn cv / 50) (G (sn pv)) j).2 (290 - 1 - j))), (5, .int y), (4, .int (nI ((sn cv) / 50))), (3, .int (nI (290 * (7 + (sn pv))))), (0, .ref o0), (1, .int (nI (sn pv))), (2, .int (nI (sn cv)))]) hx hb dX5_print_140 hl (k := 1) rfl (wk_s hj9) (by decide) rfl (fun ls hl => ?_)
                  refine lv_goto (tgt := 69) hx hb dX5_print_143 (by decide) ?_
                  have hl : lv_has ls 8 [(6, .int (wk 290 (j + 1))), (5, .int y), (4, .int (nI ((sn cv) / 50))), (3, .int (nI (290 * (7 + (sn pv))))), (0, .ref o0), (1, .int (nI (sn pv))), (2, .int (nI (sn cv)))] := lv_sub hl [0, 2, 3, 4, 5, 6, 7] rfl
                  exact ih_69 (j + 1) (upd (upd K ((290 * (7 + (sn pv))) + (290 - 1 - j)) (nI 0)) (((290 * (7 + (sn pv))) + (290 - 1 - j)) + ((sn cv) / 50)) (((upd K ((290 * (7 + (sn pv))) + (290 - 1 - j)) (nI 0)) (((290 * (7 + (sn pv))) + (290 - 1 - j)) + ((sn cv) / 50))) + ((prS (sn cv / 50) (G (sn pv)) j).2 (290 - 1 - j)))) y (by omega) (by omega) (by first | exact (hp2 c_110).2 | exact (hp3 c_110).2) (by rw [hy9]; first | exact (hp2 c_110).1.symm | exact (hp3 c_110).1.symm) (by omega) _ _ _ hW hl
                · refine lv_iload hx hb dX5_print_113 (lv_at hl 2 rfl) ?_
                  refine lv_iload hx hb dX5_print_115 (lv_at hl 0 rfl) ?_
                  refine lv_iadd hx hb dX5_print_117 ?_
                  refine lv_istore (lv' := [(5, .int (y + ((prS (sn cv / 50) (G (sn pv)) j).2 (290 - 1 - j)))), (7, .int ((prS (sn cv / 50) (G (sn pv)) j).2 (290 - 1 - j))), (6, .int (nI (290 - 1 - j))), (4, .int (nI ((sn cv) / 50))), (3, .int (nI (290 * (7 + (sn pv))))), (0, .ref o0), (1, .int (nI (sn pv))), (2, .int (nI (sn cv)))]) hx hb dX5_print_118 hl (by decide) rfl (fun ls hl => ?_)
                  refine lv_goto (tgt := 140) hx hb dX5_print_120 (by decide) ?_
                  refine lv_iinc (v := wk 290 (j + 1)) (lv' := [(6, .int (wk 290 (j + 1))), (5, .int (y + ((prS (sn cv / 50) (G (sn pv)) j).2 (290 - 1 - j)))), (7, .int ((prS (sn cv / 50) (G (sn pv)) j).2 (290 - 1 - j))), (4, .int (nI ((sn cv) / 50))), (3, .int (nI (290 * (7 + (sn pv))))), (0, .ref o0), (1, .int (nI (sn pv))), (2, .int (nI (sn cv)))]) hx hb dX5_print_140 hl (k := 2) rfl (wk_s hj9) (by decide) rfl (fun ls hl => ?_)
                  refine lv_goto (tgt := 69) hx hb dX5_print_143 (by decide) ?_
                  have hl : lv_has ls 8 [(6, .int (wk 290 (j + 1))), (5, .int (y + ((prS (sn cv / 50) (G (sn pv)) j).2 (290 - 1 - j)))), (4, .int (nI ((sn cv) / 50))), (3, .int (nI (290 * (7 + (sn pv))))), (0, .ref o0), (1, .int (nI (sn pv))), (2, .int (nI (sn cv)))] := lv_sub hl [0, 1, 3, 4, 5, 6, 7] rfl
                  exact ih_69 (j + 1) (upd K ((290 * (7 + (sn pv))) + (290 - 1 - j)) (nI 0)) (y + ((prS (sn cv / 50) (G (sn pv)) j).2 (290 - 1 - j))) (by omega) (by omega) (by first | exact (hp2 c_110).2 | exact (hp3 c_110).2) (by rw [hy9]; first | exact (hp2 c_110).1.symm | exact (hp3 c_110).1.symm) (by omega) _ _ _ hW hl
            · rw [wk_ge hj9] at hl
              have hx5 : prX (sn cv / 50) (G (sn pv)) = prS (sn cv / 50) (G (sn pv)) j := by unfold prX; rw [if_neg (by omega), show j = 290 by omega]
              have hl : lv_has ls 8 [(6, .int (-1)), (5, .int y), (4, .int (nI ((sn cv) / 50))), (3, .int (nI (290 * (7 + (sn pv))))), (0, .ref o0), (1, .int (nI (sn pv))), (2, .int (nI (sn cv)))] := hl
              refine lv_iload hx hb dX5_print_69 (lv_at hl 0 rfl) ?_
              refine lv_if_lt (tgt := 146) hx hb dX5_print_71 (by decide) (fun c_71 => ?_) (fun c_71 => absurd (by decide) c_71)
              refine lv_aload_n hx hb dX5_print_146 rfl (lv_at hl 4 rfl) ?_
              refine z_get (C := RX5) (T := TX5) (N := 17) hx hb hts mw_X5_print_1 hown hX hW 0 rfl rfl 11 (by decide) mw_X5_print_2 (fun _ h9 => h9) rfl dX5_print_147 ?_
              refine lv_iload_n hx hb dX5_print_150 rfl (lv_at hl 5 rfl) ?_
              refine lv_dup2_11 hx hb dX5_print_151 rfl rfl ?_
              refine z_iald hx hb hX hW 4 rfl (k := (sn pv)) (by omega) (by omega) dX5_print_152 ?_
              refine zw_topi (y := (pn (sn pv) 2)) (rfl) ?_
              refine lv_iload_n hx hb dX5_print_153 rfl (lv_at hl 6 rfl) ?_
              refine lv_iadd hx hb dX5_print_154 ?_
              refine z_iast hx hb hX hW 4 rfl (k := (sn pv)) (by omega) (by omega) dX5_print_155 (fun H locs hW => ?_)
              have hW : zW Z s A [(o0, .inr (5, [.int (nI 0), .int dy, .int me, .int co, .int (nI np), .int ca, .int br, .int ml, .ref o1, .ref o2, .ref o3, .ref o4, .ref o5, .ref o6, .int le, .ref o7, .ref o8])), (o1, zI Z 3770 K), (o2, zI Z 6 (qF pn 0)), (o3, zI Z 6 (qF pn 1)), (o4, zI Z 6 (upd (qF pn 2) (sn pv) ((pn (sn pv) 2) + (nI (sn cv))))), (o5, zI Z 6 (qF pn 3)), (o6, zI Z 6 E), (o7, zI Z 29 Tk), (o8, zI Z 29 Lf)] _ _ := hW
              refine lv_aload_n hx hb dX5_print_156 rfl (lv_at hl 4 rfl) ?_
              refine lv_dup hx hb dX5_print_157 rfl ?_
              refine z_get (C := RX5) (T := TX5) (N := 17) hx hb hts mw_X5_print_1 hown hX hW 0 rfl rfl 6 (by decide) mw_X5_print_3 (fun _ h9 => h9) rfl dX5_print_158 ?_
              refine lv_iload hx hb dX5_print_161 (lv_at hl 1 rfl) ?_
              refine lv_iadd hx hb dX5_print_163 ?_
              refine z_put (C := RX5) (T := TX5) (N := 17) (v := .int (br + y)) (ty := .int) hx hb hts mw_X5_print_1 tyX5 tyX5_ok nmX5 hown hX hW 0 rfl rfl 6 (by decide) mw_X5_print_3 (fun _ h9 => h9) rfl (by decide +kernel) rfl rfl (Nat.le_of_ble_eq_true rfl) dX5_print_164 (fun H locs hW => ?_)
              have hW : zW Z s A [(o0, .inr (5, [.int (nI 0), .int dy, .int me, .int co, .int (nI np), .int ca, .int (br + y), .int ml, .ref o1, .ref o2, .ref o3, .ref o4, .ref o5, .ref o6, .int le, .ref o7, .ref o8])), (o1, zI Z 3770 K), (o2, zI Z 6 (qF pn 0)), (o3, zI Z 6 (qF pn 1)), (o4, zI Z 6 (upd (qF pn 2) (sn pv) ((pn (sn pv) 2) + (nI (sn cv))))), (o5, zI Z 6 (qF pn 3)), (o6, zI Z 6 E), (o7, zI Z 29 Tk), (o8, zI Z 29 Lf)] _ _ := hW
              refine lv_iload hx hb dX5_print_167 (lv_at hl 1 rfl) ?_
              exact z_iret hx hb hr hlk hW (nI 0, br + y, K, qF pn 0, qF pn 1, upd (qF pn 2) (sn pv) ((pn (sn pv) 2) + (nI (sn cv))), qF pn 3) (by unfold po_X5_print; exact Or.inl ⟨rfl, cdx_0 (fun h6 => h6 hP) (fun h6 => h6 hR9) (fun h6 => c_46 h6), by rw [hx5, ← hy9], by rw [hx5, ← hy9], by rw [hx5]; exact hK, qs_0 rfl, qs_1 rfl, (by rw [show pn (sn pv) 2 + cv = pn (sn pv) 2 + nI (sn cv) by rw [← hR3]]; exact qf_2), qs_3 rfl⟩) (rfl) (by omega) (by omega) dX5_print_169
        have hl : lv_has ls 8 [(6, .int (wk 290 0)), (5, .int (nI 0)), (4, .int (nI ((sn cv) / 50))), (3, .int (nI (290 * (7 + (sn pv))))), (0, .ref o0), (1, .int (nI (sn pv))), (2, .int (nI (sn cv)))] := lv_sub hl [0, 1, 2, 3, 4, 5, 6] rfl
        exact loop_69 _ 0 (stF S F G) (nI 0) (by omega) (fun _ => rfl) (by show _ = stF S F (up G (sn pv) (G (sn pv))); rw [up_self]) rfl (Nat.lt_succ_self _) _ _ _ hW hl
      · refine lv_aload_n hx hb dX5_print_49 rfl (lv_at hl 1 rfl) ?_
        refine lv_iconst (v := nI 3) hx hb dX5_print_50 (by decide) ?_
        refine zc_i (va_runV (As := [.int (nI 3)]) (rest := []) hC (c_X5_no l Z o0 o1 o2 o3 o4 o5 o6 o7 o8 np (nI 0) dy me co ca br ml le 3  _) (cwV 1 hts gX5_print_X5_no rfl rfl rfl (by decide +kernel) ⟨Nat.le_of_ble_eq_true rfl, Nat.le_of_ble_eq_true rfl⟩) (zpreV (ci := 5) (q0 := 0) hX hW rfl rfl [0] rfl (by decide)) rfl rfl hl.1 rfl (lv_room (Nat.le_of_ble_eq_true rfl)) dX5_print_51 ⟨Nat.le_of_ble_eq_true rfl, Nat.le_of_ble_eq_true rfl⟩) hX hW [0] rfl (by decide) (fun _ => rfl) (fun r_51 u_51 H locs h_51 hW => ?_)
        have hW : zW Z s A [(o0, .inr (5, [.int (nI 3), .int dy, .int me, .int co, .int (nI np), .int ca, .int br, .int ml, .ref o1, .ref o2, .ref o3, .ref o4, .ref o5, .ref o6, .int le, .ref o7, .ref o8])), (o1, zI Z 3770 (stF S F G)), (o2, zI Z 6 (qF pn 0)), (o3, zI Z 6 (qF pn 1)), (o4, zI Z 6 (qF pn 2)), (o5, zI Z 6 (qF pn 3)), (o6, zI Z 6 E), (o7, zI Z 29 Tk), (o8, zI Z 29 Lf)] _ _ := hW
        subst h_51
        exact z_iret hx hb hr hlk hW (nI 3, br, stF S F G, qF pn 0, qF pn 1, qF pn 2, qF pn 3) (by unfold po_X5_print; exact Or.inr ⟨3, by omega, cdx_3 (fun h6 => h6 hP) (fun h6 => h6 (bI_n c_27)) c_46, rfl, rfl, rfl, rfl, rfl, rfl, rfl⟩) (rfl) (by omega) (by omega) dX5_print_54
    · refine lv_aload_n hx hb dX5_print_30 rfl (lv_at hl 0 rfl) ?_
      refine lv_iconst (v := nI 2) hx hb dX5_print_31 (by decide) ?_
      refine zc_i (va_runV (As := [.int (nI 2)]) (rest := []) hC (c_X5_no l Z o0 o1 o2 o3 o4 o5 o6 o7 o8 np (nI 0) dy me co ca br ml le 2  _) (cwV 1 hts gX5_print_X5_no rfl rfl rfl (by decide +kernel) ⟨Nat.le_of_ble_eq_true rfl, Nat.le_of_ble_eq_true rfl⟩) (zpreV (ci := 5) (q0 := 0) hX hW rfl rfl [0] rfl (by decide)) rfl rfl hl.1 rfl (lv_room (Nat.le_of_ble_eq_true rfl)) dX5_print_32 ⟨Nat.le_of_ble_eq_true rfl, Nat.le_of_ble_eq_true rfl⟩) hX hW [0] rfl (by decide) (fun _ => rfl) (fun r_32 u_32 H locs h_32 hW => ?_)
      have hW : zW Z s A [(o0, .inr (5, [.int (nI 2), .int dy, .int me, .int co, .int (nI np), .int ca, .int br, .int ml, .ref o1, .ref o2, .ref o3, .ref o4, .ref o5, .ref o6, .int le, .ref o7, .ref o8])), (o1, zI Z 3770 (stF S F G)), (o2, zI Z 6 (qF pn 0)), (o3, zI Z 6 (qF pn 1)), (o4, zI Z 6 (qF pn 2)), (o5, zI Z 6 (qF pn 3)), (o6, zI Z 6 E), (o7, zI Z 29 Tk), (o8, zI Z 29 Lf)] _ _ := hW
      subst h_32
      exact z_iret hx hb hr hlk hW (nI 2, br, stF S F G, qF pn 0, qF pn 1, qF pn 2, qF pn 3) (by unfold po_X5_print; exact Or.inr ⟨2, by omega, cdx_2 (fun h6 => h6 hP) (bI_e c_27), rfl, rfl, rfl, rfl, rfl, rfl, rfl⟩) (rfl) (by omega) (by omega) dX5_print_35
  · refine lv_aload_n hx hb dX5_print_13 rfl (lv_at hl 0 rfl) ?_
    refine lv_iconst (v := nI 1) hx hb dX5_print_14 (by decide) ?_
    refine zc_i (va_runV (As := [.int (nI 1)]) (rest := []) hC (c_X5_no l Z o0 o1 o2 o3 o4 o5 o6 o7 o8 np (nI 0) dy me co ca br ml le 1  _) (cwV 1 hts gX5_print_X5_no rfl rfl rfl (by decide +kernel) ⟨Nat.le_of_ble_eq_true rfl, Nat.le_of_ble_eq_true rfl⟩) (zpreV (ci := 5) (q0 := 0) hX hW rfl rfl [0] rfl (by decide)) rfl rfl hl.1 rfl (lv_room (Nat.le_of_ble_eq_true rfl)) dX5_print_15 ⟨Nat.le_of_ble_eq_true rfl, Nat.le_of_ble_eq_true rfl⟩) hX hW [0] rfl (by decide) (fun _ => rfl) (fun r_15 u_15 H locs h_15 hW => ?_)
    have hW : zW Z s A [(o0, .inr (5, [.int (nI 1), .int dy, .int me, .int co, .int (nI np), .int ca, .int br, .int ml, .ref o1, .ref o2, .ref o3, .ref o4, .ref o5, .ref o6, .int le, .ref o7, .ref o8])), (o1, zI Z 3770 (stF S F G)), (o2, zI Z 6 (qF pn 0)), (o3, zI Z 6 (qF pn 1)), (o4, zI Z 6 (qF pn 2)), (o5, zI Z 6 (qF pn 3)), (o6, zI Z 6 E), (o7, zI Z 29 Tk), (o8, zI Z 29 Lf)] _ _ := hW
    subst h_15
    exact z_iret hx hb hr hlk hW (nI 1, br, stF S F G, qF pn 0, qF pn 1, qF pn 2, qF pn 3) (by unfold po_X5_print; exact Or.inr ⟨1, by omega, cdx_1 (bI_e c_10), rfl, rfl, rfl, rfl, rfl, rfl, rfl⟩) (rfl) (by omega) (by omega) dX5_print_18
