theorem mw_X5_bears_0 : Cond.fieldLink RX5 38 "TypeFoundryModel" "thrown" "I" ∈ wsX5_bears := by decide +kernel
theorem mw_X5_bears_1 : ∀ w ∈ wsX50, w ∈ wsX5_bears := by decide +kernel
theorem mw_X5_bears_2 : Cond.fieldLink RX5 13 "TypeFoundryModel" "store" "[I" ∈ wsX5_bears := by decide +kernel
theorem mw_X5_bears_3 : Cond.methodLink RX5 131 Lib.Math.max.name ∈ wsX5_bears := by decide +kernel
theorem mw_X5_bears_4 : Cond.static Lib.Math.max.name ∈ wsX5_bears := by decide +kernel
theorem mw_X5_bears_5 : Cond.initialized "java/lang/Math" ∈ wsX5_bears := by decide +kernel
theorem mw_X5_bears_6 : Cond.code Lib.Math.max.name Lib.Math.max.code 2 (some .int) ∈ wsX5_bears := by decide +kernel
abbrev wp_X5_bears (Z : zT) (o0 o1 o2 o3 o4 o5 o6 o7 o8 np : Nat) (th dy me co ca br ml le : Int32) (S E Tk Lf : Nat → Int32) (F G pn : Nat → Nat → Int32) (pv : Int32) : Int32 → va_W := fun (u : Int32) => match u with | th_1 => [(o0, .inr (5, [.int th_1, .int dy, .int me, .int co, .int (nI np), .int ca, .int br, .int ml, .ref o1, .ref o2, .ref o3, .ref o4, .ref o5, .ref o6, .int le, .ref o7, .ref o8])), (o1, zI Z 3770 (stF S F G)), (o2, zI Z 6 (qF pn 0)), (o3, zI Z 6 (qF pn 1)), (o4, zI Z 6 (qF pn 2)), (o5, zI Z 6 (qF pn 3)), (o6, zI Z 6 E), (o7, zI Z 29 Tk), (o8, zI Z 29 Lf)]
abbrev po_X5_bears (Z : zT) (o0 o1 o2 o3 o4 o5 o6 o7 o8 np : Nat) (th dy me co ca br ml le : Int32) (S E Tk Lf : Nat → Int32) (F G pn : Nat → Nat → Int32) (pv : Int32) : Int32 → Int32 → Prop := fun (r : Int32) (u : Int32) => match u with | th_1 => (th_1 = nI 0 ∧ 0 = cdx (¬ isP pv np) (False) (False) ∧ r = brS (gw (G (sn pv)) 290)) ∨ (∃ k9, 1 ≤ k9 ∧ k9 = cdx (¬ isP pv np) (False) (False) ∧ th_1 = nI k9)
abbrev rm_X5_bears : Room := { frames := 2, cells := 0, slots := 0, locals := 43 }
set_option maxHeartbeats 4000000 in
set_option maxRecDepth 100000 in
theorem c_X5_bears (l : Launch) (Z : zT) (o0 o1 o2 o3 o4 o5 o6 o7 o8 np : Nat) (th dy me co ca br ml le : Int32) (S E Tk Lf : Nat → Int32) (F G pn : Nat → Nat → Int32) (pv : Int32) (hG : GA S F G) (hnp : np ≤ 6) : zMet l yX5_bears wsX5_bears rm_X5_bears [.ref o0, .int pv] Z [(o0, .inr (5, [.int th, .int dy, .int me, .int co, .int (nI np), .int ca, .int br, .int ml, .ref o1, .ref o2, .ref o3, .ref o4, .ref o5, .ref o6, .int le, .ref o7, .ref o8])), (o1, zI Z 3770 (stF S F G)), (o2, zI Z 6 (qF pn 0)), (o3, zI Z 6 (qF pn 1)), (o4, zI Z 6 (qF pn 2)), (o5, zI Z 6 (qF pn 3)), (o6, zI Z 6 E), (o7, zI Z 29 Tk), (o8, zI Z 29 Lf)] (zQi Z (po_X5_bears Z o0 o1 o2 o3 o4 o5 o6 o7 o8 np th dy me co ca br ml le S E Tk Lf F G pn pv) (wp_X5_bears Z o0 o1 o2 o3 o4 o5 o6 o7 o8 np th dy me co ca br ml le S E Tk Lf F G pn pv)) 0 0 := by
  refine zstart (cc := cX5_bears) (maxL := 4) (ret := (some .int)) (by decide) rfl (Nat.le_of_ble_eq_true rfl) ?_
  intro p e s m below meth c ls A hx hb hr hC hlk hnm hX hW hl
  have hml := hC.2.2.1
  have hown : s.vm.findClass RX5 = some m.cls := hC.2.2.2.1
  have hts := hC.2.2.2.2
  have hl : lv_has ls 4 [(0, .ref o0), (1, .int pv)] := hl
  refine lv_aload_n hx hb dX5_bears_0 rfl (lv_at hl 0 rfl) ?_
  refine lv_iconst (v := nI 0) hx hb dX5_bears_1 (by decide) ?_
  refine z_put (C := RX5) (T := TX5) (N := 17) (v := .int (nI 0)) (ty := .int) hx hb hts mw_X5_bears_1 tyX5 tyX5_ok nmX5 hown hX hW 0 rfl rfl 0 (by decide) mw_X5_bears_0 (fun _ h9 => h9) rfl (by decide +kernel) rfl rfl (Nat.le_of_ble_eq_true rfl) dX5_bears_2 (fun H locs hW => ?_)
  have hW : zW Z s A [(o0, .inr (5, [.int (nI 0), .int dy, .int me, .int co, .int (nI np), .int ca, .int br, .int ml, .ref o1, .ref o2, .ref o3, .ref o4, .ref o5, .ref o6, .int le, .ref o7, .ref o8])), (o1, zI Z 3770 (stF S F G)), (o2, zI Z 6 (qF pn 0)), (o3, zI Z 6 (qF pn 1)), (o4, zI Z 6 (qF pn 2)), (o5, zI Z 6 (qF pn 3)), (o6, zI Z 6 E), (o7, zI Z 29 Tk), (o8, zI Z 29 Lf)] _ _ := hW
  refine lv_aload_n hx hb dX5_bears_5 rfl (lv_at hl 0 rfl) ?_
  refine lv_iload_n hx hb dX5_bears_6 rfl (lv_at hl 1 rfl) ?_
  refine zc_i (va_runV (As := [.int pv]) (rest := []) hC (c_X5_isPrinter l Z o0 o1 o2 o3 o4 o5 o6 o7 o8 np (nI 0) dy me co ca br ml le pv (by omega) _) (cwV 1 hts gX5_bears_X5_isPrinter rfl rfl rfl (by decide +kernel) ⟨Nat.le_of_ble_eq_true rfl, Nat.le_of_ble_eq_true rfl⟩) (zpreV (ci := 5) (q0 := 0) hX hW rfl rfl [0] rfl (by decide)) rfl rfl hl.1 rfl (lv_room (Nat.le_of_ble_eq_true rfl)) dX5_bears_7 ⟨Nat.le_of_ble_eq_true rfl, Nat.le_of_ble_eq_true rfl⟩) hX hW [0] rfl (by decide) (fun _ => rfl) (fun r_7 u_7 H locs h_7 hW => ?_)
  have hW : zW Z s A [(o0, .inr (5, [.int (nI 0), .int dy, .int me, .int co, .int (nI np), .int ca, .int br, .int ml, .ref o1, .ref o2, .ref o3, .ref o4, .ref o5, .ref o6, .int le, .ref o7, .ref o8])), (o1, zI Z 3770 (stF S F G)), (o2, zI Z 6 (qF pn 0)), (o3, zI Z 6 (qF pn 1)), (o4, zI Z 6 (qF pn 2)), (o5, zI Z 6 (qF pn 3)), (o6, zI Z 6 E), (o7, zI Z 29 Tk), (o8, zI Z 29 Lf)] _ _ := hW
  subst h_7
  refine lv_if_ne (tgt := 19) hx hb dX5_bears_10 (by decide) (fun c_10 => ?_) (fun c_10 => ?_)
  · have hP : isP pv np := bI_n c_10
    have hP1 := hP.1
    have hl : lv_has ls 4 [(0, .ref o0), (1, .int (nI (sn pv)))] := by rw [← hP.2]; exact hl
    have hP6 : sn pv < 6 := by omega
    refine lv_iconst (v := -1) hx hb dX5_bears_19 (by decide) ?_
    refine lv_istore_n (lv' := [(2, .int (-1)), (0, .ref o0), (1, .int (nI (sn pv)))]) hx hb dX5_bears_20 rfl hl (by decide) rfl (fun ls hl => ?_)
    refine lv_iconst (v := nI 0) hx hb dX5_bears_21 (by decide) ?_
    refine lv_istore_n (lv' := [(3, .int (nI 0)), (2, .int (-1)), (0, .ref o0), (1, .int (nI (sn pv)))]) hx hb dX5_bears_22 rfl hl (by decide) rfl (fun ls hl => ?_)
    have loop_23 : ∀ (n : Nat) (j : Nat) (y : Int32), (j ≤ 290) → (y = gw (G (sn pv)) j) → (290 - j < n) → ∀ (H : Heap) (locs : List Loc) (ls : Array Slot), zW Z s A [(o0, .inr (5, [.int (nI 0), .int dy, .int me, .int co, .int (nI np), .int ca, .int br, .int ml, .ref o1, .ref o2, .ref o3, .ref o4, .ref o5, .ref o6, .int le, .ref o7, .ref o8])), (o1, zI Z 3770 (stF S F G)), (o2, zI Z 6 (qF pn 0)), (o3, zI Z 6 (qF pn 1)), (o4, zI Z 6 (qF pn 2)), (o5, zI Z 6 (qF pn 3)), (o6, zI Z 6 E), (o7, zI Z 29 Tk), (o8, zI Z 29 Lf)] H locs → lv_has ls 4 [(3, .int (nI j)), (2, .int y), (0, .ref o0), (1, .int (nI (sn pv)))] → W p l e rm_X5_bears s m ([.ref o0, .int pv] : List Value).toArray below meth c H locs 0 0 (MQ below (zQi Z (po_X5_bears Z o0 o1 o2 o3 o4 o5 o6 o7 o8 np th dy me co ca br ml le S E Tk Lf F G pn pv) (wp_X5_bears Z o0 o1 o2 o3 o4 o5 o6 o7 o8 np th dy me co ca br ml le S E Tk Lf F G pn pv) A) ([.ref o0, .int pv] : List Value).toArray s 0 0 A) (F0 m 23 ls []) := by
      intro n
      induction n with
      | zero =>
        intro j y hj hy9 hm
        exact absurd hm (Nat.not_lt_zero _)
      | succ n ih =>
        intro j y hj hy9 hm H locs ls hW hl
        have ih_23 := ih
        refine lv_iload_n hx hb dX5_bears_23 rfl (lv_at hl 0 rfl) ?_
        refine lv_sipush (v := nI 290) hx hb dX5_bears_24 (by decide) ?_
        refine zn_icmp_ge (tgt := 59) (a := j) (b := 290) hx hb (by omega) (by omega) dX5_bears_27 (by decide) (fun c_27 => ?_) (fun c_27 => ?_)
        · refine lv_iload_n hx hb dX5_bears_59 rfl (lv_at hl 1 rfl) ?_
          refine lv_iconst (v := -1) hx hb dX5_bears_60 (by decide) ?_
          refine lv_icmp_ne (tgt := 68) hx hb dX5_bears_61 (by decide) (fun c_61 => ?_) (fun c_61 => ?_)
          · refine lv_bipush (v := nI 50) hx hb dX5_bears_68 (by decide) ?_
            refine lv_bipush (v := nI 10) hx hb dX5_bears_70 (by decide) ?_
            refine lv_iload_n hx hb dX5_bears_72 rfl (lv_at hl 1 rfl) ?_
            refine lv_isub hx hb dX5_bears_73 ?_
            refine lv_imul hx hb dX5_bears_74 ?_
            refine lv_iconst (v := nI 1) hx hb dX5_bears_75 (by decide) ?_
            refine lv_isub hx hb dX5_bears_76 ?_
            exact z_iret hx hb hr hlk hW (nI 0) (by unfold po_X5_bears; exact Or.inl ⟨rfl, cdx_0 (fun h6 => h6 hP) (fun h6 => h6) (fun h6 => h6), (by have hy8 : y = gw (G (sn pv)) 290 := (by rw [hy9, show j = 290 by omega]); rw [← hy8]; unfold brS; first | rw [if_pos c_61] | rw [if_neg c_61])⟩) (rfl) (by omega) (by omega) dX5_bears_77
          · refine lv_iconst (v := nI 0) hx hb dX5_bears_64 (by decide) ?_
            refine lv_goto (tgt := 77) hx hb dX5_bears_65 (by decide) ?_
            exact z_iret hx hb hr hlk hW (nI 0) (by unfold po_X5_bears; exact Or.inl ⟨rfl, cdx_0 (fun h6 => h6 hP) (fun h6 => h6) (fun h6 => h6), (by have hy8 : y = gw (G (sn pv)) 290 := (by rw [hy9, show j = 290 by omega]); rw [← hy8]; unfold brS; first | rw [if_pos c_61] | rw [if_neg c_61])⟩) (rfl) (by omega) (by omega) dX5_bears_77
        · refine lv_aload_n hx hb dX5_bears_30 rfl (lv_at hl 2 rfl) ?_
          refine z_get (C := RX5) (T := TX5) (N := 17) hx hb hts mw_X5_bears_1 hown hX hW 0 rfl rfl 8 (by decide) mw_X5_bears_2 (fun _ h9 => h9) rfl dX5_bears_31 ?_
          refine lv_iload_n hx hb dX5_bears_34 rfl (lv_at hl 3 rfl) ?_
          refine zc_i (va_runS (As := [.int (nI (sn pv))]) (rest := [.ref o1]) hC (c_X5_formOf l Z (sn pv)  _) (va_cwS 1 hts gX5_bears_X5_formOf rfl rfl rfl (by decide +kernel) ⟨Nat.le_of_ble_eq_true rfl, Nat.le_of_ble_eq_true rfl⟩) (zpreS hX hW [] rfl (by decide)) rfl rfl hl.1 rfl (lv_room (Nat.le_of_ble_eq_true rfl)) dX5_bears_35 ⟨Nat.le_of_ble_eq_true rfl, Nat.le_of_ble_eq_true rfl⟩) hX hW [] rfl (by decide) (fun _ => rfl) (fun r_35 u_35 H locs h_35 hW => ?_)
          have hW : zW Z s A [(o0, .inr (5, [.int (nI 0), .int dy, .int me, .int co, .int (nI np), .int ca, .int br, .int ml, .ref o1, .ref o2, .ref o3, .ref o4, .ref o5, .ref o6, .int le, .ref o7, .ref o8])), (o1, zI Z 3770 (stF S F G)), (o2, zI Z 6 (qF pn 0)), (o3, zI Z 6 (qF pn 1)), (o4, zI Z 6 (qF pn 2)), (o5, zI Z 6 (qF pn 3)), (o6, zI Z 6 E), (o7, zI Z 29 Tk), (o8, zI Z 29 Lf)] _ _ := hW
          subst h_35
          refine lv_iload_n hx hb dX5_bears_38 rfl (lv_at hl 0 rfl) ?_
          refine lv_iadd hx hb dX5_bears_39 ?_
          refine zw_topi (nI_add _ _) ?_
          refine z_iald hx hb hX hW 1 rfl (k := ((290 * (7 + (sn pv))) + j)) (by omega) (by omega) dX5_bears_40 ?_
          refine zw_topi (y := (G (sn pv) j)) (stF_G hP6 (by omega)) ?_
          refine lv_if_le (tgt := 53) hx hb dX5_bears_41 (by decide) (fun c_41 => ?_) (fun c_41 => ?_)
          · refine lv_iinc (v := nI (j + 1)) (lv' := [(3, .int (nI (j + 1))), (2, .int y), (0, .ref o0), (1, .int (nI (sn pv)))]) hx hb dX5_bears_53 hl (k := 0) rfl (zinc1 _) (by decide) rfl (fun ls hl => ?_)
            refine lv_goto (tgt := 23) hx hb dX5_bears_56 (by decide) ?_
            have hl : lv_has ls 4 [(3, .int (nI (j + 1))), (2, .int y), (0, .ref o0), (1, .int (nI (sn pv)))] := lv_sub hl [0, 1, 2, 3] rfl
            exact ih_23 (j + 1) y (by omega) (by subst hy9; first | exact gw_t (Int32.not_le.mp c_41) | exact gw_f (Int32.not_lt.mpr c_41)) (by omega) _ _ _ hW hl
          · refine lv_iload_n hx hb dX5_bears_44 rfl (lv_at hl 1 rfl) ?_
            refine lv_iload_n hx hb dX5_bears_45 rfl (lv_at hl 0 rfl) ?_
            refine lv_bipush (v := nI 10) hx hb dX5_bears_46 (by decide) ?_
            refine lv_irem hx hb dX5_bears_48 (by decide) ?_
            refine zw_topi (pk_rem (by omega) (by omega) (by omega)) ?_
            refine va_mmax hx hb (hml.trans hl.1.symm) hown (hts _ mw_X5_bears_3) (hts _ mw_X5_bears_4) (hts _ mw_X5_bears_5) (hts _ mw_X5_bears_6) (Nat.le_of_ble_eq_true rfl) (Nat.le_of_ble_eq_true rfl) (Nat.le_of_ble_eq_true rfl) (Nat.le_of_ble_eq_true rfl) dX5_bears_49 ?_
            refine lv_istore_n (lv' := [(2, .int (if y < nI (j % 10) then nI (j % 10) else y)), (3, .int (nI j)), (0, .ref o0), (1, .int (nI (sn pv)))]) hx hb dX5_bears_52 rfl hl (by decide) rfl (fun ls hl => ?_)
            refine lv_iinc (v := nI (j + 1)) (lv' := [(3, .int (nI (j + 1))), (2, .int (if y < nI (j % 10) then nI (j % 10) else y)), (0, .ref o0), (1, .int (nI (sn pv)))]) hx hb dX5_bears_53 hl (k := 1) rfl (zinc1 _) (by decide) rfl (fun ls hl => ?_)
            refine lv_goto (tgt := 23) hx hb dX5_bears_56 (by decide) ?_
            have hl : lv_has ls 4 [(3, .int (nI (j + 1))), (2, .int (if y < nI (j % 10) then nI (j % 10) else y)), (0, .ref o0), (1, .int (nI (sn pv)))] := lv_sub hl [0, 1, 2, 3] rfl
            exact ih_23 (j + 1) (if y < nI (j % 10) then nI (j % 10) else y) (by omega) (by subst hy9; first | exact gw_t (Int32.not_le.mp c_41) | exact gw_f (Int32.not_lt.mpr c_41)) (by omega) _ _ _ hW hl
    have hl : lv_has ls 4 [(3, .int (nI 0)), (2, .int (-1)), (0, .ref o0), (1, .int (nI (sn pv)))] := lv_sub hl [0, 1, 2, 3] rfl
    exact loop_23 _ 0 (-1) (by omega) rfl (Nat.lt_succ_self _) _ _ _ hW hl
  · refine lv_aload_n hx hb dX5_bears_13 rfl (lv_at hl 0 rfl) ?_
    refine lv_iconst (v := nI 1) hx hb dX5_bears_14 (by decide) ?_
    refine zc_i (va_runV (As := [.int (nI 1)]) (rest := []) hC (c_X5_no l Z o0 o1 o2 o3 o4 o5 o6 o7 o8 np (nI 0) dy me co ca br ml le 1  _) (cwV 1 hts gX5_bears_X5_no rfl rfl rfl (by decide +kernel) ⟨Nat.le_of_ble_eq_true rfl, Nat.le_of_ble_eq_true rfl⟩) (zpreV (ci := 5) (q0 := 0) hX hW rfl rfl [0] rfl (by decide)) rfl rfl hl.1 rfl (lv_room (Nat.le_of_ble_eq_true rfl)) dX5_bears_15 ⟨Nat.le_of_ble_eq_true rfl, Nat.le_of_ble_eq_true rfl⟩) hX hW [0] rfl (by decide) (fun _ => rfl) (fun r_15 u_15 H locs h_15 hW => ?_)
    have hW : zW Z s A [(o0, .inr (5, [.int (nI 1), .int dy, .int me, .int co, .int (nI np), .int ca, .int br, .int ml, .ref o1, .ref o2, .ref o3, .ref o4, .ref o5, .ref o6, .int le, .ref o7, .ref o8])), (o1, zI Z 3770 (stF S F G)), (o2, zI Z 6 (qF pn 0)), (o3, zI Z 6 (qF pn 1)), (o4, zI Z 6 (qF pn 2)), (o5, zI Z 6 (qF pn 3)), (o6, zI Z 6 E), (o7, zI Z 29 Tk), (o8, zI Z 29 Lf)] _ _ := hW
    subst h_15
    exact z_iret hx hb hr hlk hW (nI 1) (by unfold po_X5_bears; exact Or.inr ⟨1, by omega, cdx_1 (bI_e c_10), rfl⟩) (rfl) (by omega) (by omega) dX5_bears_18
