theorem mw_X1_layTheSameAgain_0 : Cond.constant RX1 53 (2147483647) ∈ wsX1_layTheSameAgain := by decide +kernel
theorem mw_X1_layTheSameAgain_1 : Cond.fieldLink RX1 9 "TypeFoundry$Setting" "left" "[I" ∈ wsX1_layTheSameAgain := by decide +kernel
theorem mw_X1_layTheSameAgain_2 : ∀ w ∈ wsX10, w ∈ wsX1_layTheSameAgain := by decide +kernel
theorem mw_X1_layTheSameAgain_3 : Cond.fieldLink RX1 15 "TypeFoundry$Setting" "taken" "[I" ∈ wsX1_layTheSameAgain := by decide +kernel
theorem mw_X1_layTheSameAgain_4 : Cond.methodLink RX1 54 Lib.Math.min.name ∈ wsX1_layTheSameAgain := by decide +kernel
theorem mw_X1_layTheSameAgain_5 : Cond.static Lib.Math.min.name ∈ wsX1_layTheSameAgain := by decide +kernel
theorem mw_X1_layTheSameAgain_6 : Cond.initialized "java/lang/Math" ∈ wsX1_layTheSameAgain := by decide +kernel
theorem mw_X1_layTheSameAgain_7 : Cond.code Lib.Math.min.name Lib.Math.min.code 2 (some .int) ∈ wsX1_layTheSameAgain := by decide +kernel
abbrev wp_X1_layTheSameAgain (Z : zT) (z zl zt : Nat) (lf tk : Nat → Int32) : Unit → va_W := fun (u : Unit) => [(z, .inr (1, [.ref zl, .ref zt])), (zl, zI Z 29 (sa lf tk)), (zt, zI Z 29 tk)]
abbrev po_X1_layTheSameAgain (Z : zT) (z zl zt : Nat) (lf tk : Nat → Int32) : Int32 → Unit → Prop := fun (r : Int32) (u : Unit) => r = ag lf tk 29
abbrev rm_X1_layTheSameAgain : Room := { frames := 1, cells := 0, slots := 0, locals := 13 }
set_option maxHeartbeats 4000000 in
set_option maxRecDepth 100000 in
theorem c_X1_layTheSameAgain (l : Launch) (Z : zT) (z zl zt : Nat) (lf tk : Nat → Int32)  : zMet l yX1_layTheSameAgain wsX1_layTheSameAgain rm_X1_layTheSameAgain [.ref z] Z [(z, .inr (1, [.ref zl, .ref zt])), (zl, zI Z 29 lf), (zt, zI Z 29 tk)] (zQi Z (po_X1_layTheSameAgain Z z zl zt lf tk) (wp_X1_layTheSameAgain Z z zl zt lf tk)) 0 0 := by
  refine zstart (cc := cX1_layTheSameAgain) (maxL := 3) (ret := (some .int)) (by decide) rfl (Nat.le_of_ble_eq_true rfl) ?_
  intro p e s m below meth c ls A hx hb hr hC hlk hnm hX hW hl
  have hml := hC.2.2.1
  have hown : s.vm.findClass RX1 = some m.cls := hC.2.2.2.1
  have hts := hC.2.2.2.2
  have hl : lv_has ls 3 [(0, .ref z)] := hl
  refine lv_ldc (own := RX1) (v := nI 2147483647) hx hb hown (hts _ mw_X1_layTheSameAgain_0) dX1_layTheSameAgain_0 ?_
  refine lv_istore_n (lv' := [(1, .int (nI 2147483647)), (0, .ref z)]) hx hb dX1_layTheSameAgain_2 rfl hl (by decide) rfl (fun ls hl => ?_)
  refine lv_iconst (v := nI 0) hx hb dX1_layTheSameAgain_3 (by decide) ?_
  refine lv_istore_n (lv' := [(2, .int (nI 0)), (1, .int (nI 2147483647)), (0, .ref z)]) hx hb dX1_layTheSameAgain_4 rfl hl (by decide) rfl (fun ls hl => ?_)
  have loop_5 : ∀ (n : Nat) (j : Nat) (y : Int32), (j ≤ 29) → (y = ag lf tk j) → (29 - j < n) → ∀ (H : Heap) (locs : List Loc) (ls : Array Slot), zW Z s A [(z, .inr (1, [.ref zl, .ref zt])), (zl, zI Z 29 lf), (zt, zI Z 29 tk)] H locs → lv_has ls 3 [(2, .int (nI j)), (1, .int y), (0, .ref z)] → W p l e rm_X1_layTheSameAgain s m ([.ref z] : List Value).toArray below meth c H locs 0 0 (MQ below (zQi Z (po_X1_layTheSameAgain Z z zl zt lf tk) (wp_X1_layTheSameAgain Z z zl zt lf tk) A) ([.ref z] : List Value).toArray s 0 0 A) (F0 m 5 ls []) := by
    intro n
    induction n with
    | zero =>
      intro j y hj hy9 hm
      exact absurd hm (Nat.not_lt_zero _)
    | succ n ih =>
      intro j y hj hy9 hm H locs ls hW hl
      have ih_5 := ih
      refine lv_iload_n hx hb dX1_layTheSameAgain_5 rfl (lv_at hl 0 rfl) ?_
      refine lv_bipush (v := nI 29) hx hb dX1_layTheSameAgain_6 (by decide) ?_
      refine zn_icmp_ge (tgt := 44) (a := j) (b := 29) hx hb (by omega) (by omega) dX1_layTheSameAgain_8 (by decide) (fun c_8 => ?_) (fun c_8 => ?_)
      · have hy8 : y = ag lf tk 29 := by rw [hy9, show j = 29 by omega]
        have hl : lv_has ls 3 [(2, .int (nI j)), (1, .int (ag lf tk 29)), (0, .ref z)] := by rw [← hy8]; exact hl
        refine lv_iconst (v := nI 0) hx hb dX1_layTheSameAgain_44 (by decide) ?_
        refine lv_istore_n (lv' := [(2, .int (nI 0)), (1, .int (ag lf tk 29)), (0, .ref z)]) hx hb dX1_layTheSameAgain_45 rfl hl (by decide) rfl (fun ls hl => ?_)
        have loop_46 : ∀ (n : Nat) (i : Nat) (k : Nat → Int32), (i ≤ 29) → (k = fil (sa lf tk) lf i) → (29 - i < n) → ∀ (H : Heap) (locs : List Loc) (ls : Array Slot), zW Z s A [(z, .inr (1, [.ref zl, .ref zt])), (zl, zI Z 29 k), (zt, zI Z 29 tk)] H locs → lv_has ls 3 [(2, .int (nI i)), (1, .int (ag lf tk 29)), (0, .ref z)] → W p l e rm_X1_layTheSameAgain s m ([.ref z] : List Value).toArray below meth c H locs 0 0 (MQ below (zQi Z (po_X1_layTheSameAgain Z z zl zt lf tk) (wp_X1_layTheSameAgain Z z zl zt lf tk) A) ([.ref z] : List Value).toArray s 0 0 A) (F0 m 46 ls []) := by
          intro n
          induction n with
          | zero =>
            intro i k hi hk9 hm
            exact absurd hm (Nat.not_lt_zero _)
          | succ n ih =>
            intro i k hi hk9 hm H locs ls hW hl
            have ih_46 := ih
            refine lv_iload_n hx hb dX1_layTheSameAgain_46 rfl (lv_at hl 0 rfl) ?_
            refine lv_bipush (v := nI 29) hx hb dX1_layTheSameAgain_47 (by decide) ?_
            refine zn_icmp_ge (tgt := 75) (a := i) (b := 29) hx hb (by omega) (by omega) dX1_layTheSameAgain_49 (by decide) (fun c_49 => ?_) (fun c_49 => ?_)
            · have hW := z_cong hW 1 rfl (f' := sa lf tk) (by rw [hk9, show i = 29 by omega]; exact fil_end)
              have hW : zW Z s A [(z, .inr (1, [.ref zl, .ref zt])), (zl, zI Z 29 (sa lf tk)), (zt, zI Z 29 tk)] _ _ := hW
              refine lv_iload_n hx hb dX1_layTheSameAgain_75 rfl (lv_at hl 1 rfl) ?_
              exact z_iret hx hb hr hlk hW () (rfl) (rfl) (by omega) (by omega) dX1_layTheSameAgain_76
            · refine lv_aload_n hx hb dX1_layTheSameAgain_52 rfl (lv_at hl 2 rfl) ?_
              refine z_get (C := RX1) (T := TX1) (N := 2) hx hb hts mw_X1_layTheSameAgain_2 hown hX hW 0 rfl rfl 0 (by decide) mw_X1_layTheSameAgain_1 (fun _ h9 => h9) rfl dX1_layTheSameAgain_53 ?_
              refine lv_iload_n hx hb dX1_layTheSameAgain_56 rfl (lv_at hl 0 rfl) ?_
              refine lv_dup2_11 hx hb dX1_layTheSameAgain_57 rfl rfl ?_
              refine z_iald hx hb hX hW 1 rfl (k := i) (by omega) (by omega) dX1_layTheSameAgain_58 ?_
              refine lv_iload_n hx hb dX1_layTheSameAgain_59 rfl (lv_at hl 1 rfl) ?_
              refine lv_aload_n hx hb dX1_layTheSameAgain_60 rfl (lv_at hl 2 rfl) ?_
              refine z_get (C := RX1) (T := TX1) (N := 2) hx hb hts mw_X1_layTheSameAgain_2 hown hX hW 0 rfl rfl 1 (by decide) mw_X1_layTheSameAgain_3 (fun _ h9 => h9) rfl dX1_layTheSameAgain_61 ?_
              refine lv_iload_n hx hb dX1_layTheSameAgain_64 rfl (lv_at hl 0 rfl) ?_
              refine z_iald hx hb hX hW 2 rfl (k := i) (by omega) (by omega) dX1_layTheSameAgain_65 ?_
              refine lv_imul hx hb dX1_layTheSameAgain_66 ?_
              refine lv_isub hx hb dX1_layTheSameAgain_67 ?_
              refine z_iast hx hb hX hW 1 rfl (k := i) (by omega) (by omega) dX1_layTheSameAgain_68 (fun H locs hW => ?_)
              have hW : zW Z s A [(z, .inr (1, [.ref zl, .ref zt])), (zl, zI Z 29 (upd k i ((k i) - ((ag lf tk 29) * (tk i))))), (zt, zI Z 29 tk)] _ _ := hW
              refine lv_iinc (v := nI (i + 1)) (lv' := [(2, .int (nI (i + 1))), (1, .int (ag lf tk 29)), (0, .ref z)]) hx hb dX1_layTheSameAgain_69 hl (k := 0) rfl (zinc1 _) (by decide) rfl (fun ls hl => ?_)
              refine lv_goto (tgt := 46) hx hb dX1_layTheSameAgain_72 (by decide) ?_
              have hl : lv_has ls 3 [(2, .int (nI (i + 1))), (1, .int (ag lf tk 29)), (0, .ref z)] := lv_sub hl [0, 1, 2] rfl
              exact ih_46 (i + 1) (upd k i ((k i) - ((ag lf tk 29) * (tk i)))) (by omega) (by rw [hk9, fil_at]; exact fil_s (sa lf tk) lf i) (by omega) _ _ _ hW hl
        have hl : lv_has ls 3 [(2, .int (nI 0)), (1, .int (ag lf tk 29)), (0, .ref z)] := lv_sub hl [0, 1, 2] rfl
        exact loop_46 _ 0 lf (by omega) (fil_0 _ _) (Nat.lt_succ_self _) _ _ _ hW hl
      · refine lv_aload_n hx hb dX1_layTheSameAgain_11 rfl (lv_at hl 2 rfl) ?_
        refine z_get (C := RX1) (T := TX1) (N := 2) hx hb hts mw_X1_layTheSameAgain_2 hown hX hW 0 rfl rfl 1 (by decide) mw_X1_layTheSameAgain_3 (fun _ h9 => h9) rfl dX1_layTheSameAgain_12 ?_
        refine lv_iload_n hx hb dX1_layTheSameAgain_15 rfl (lv_at hl 0 rfl) ?_
        refine z_iald hx hb hX hW 2 rfl (k := j) (by omega) (by omega) dX1_layTheSameAgain_16 ?_
        refine lv_if_le (tgt := 38) hx hb dX1_layTheSameAgain_17 (by decide) (fun c_17 => ?_) (fun c_17 => ?_)
        · refine lv_iinc (v := nI (j + 1)) (lv' := [(2, .int (nI (j + 1))), (1, .int y), (0, .ref z)]) hx hb dX1_layTheSameAgain_38 hl (k := 0) rfl (zinc1 _) (by decide) rfl (fun ls hl => ?_)
          refine lv_goto (tgt := 5) hx hb dX1_layTheSameAgain_41 (by decide) ?_
          have hl : lv_has ls 3 [(2, .int (nI (j + 1))), (1, .int y), (0, .ref z)] := lv_sub hl [0, 1, 2] rfl
          exact ih_5 (j + 1) y (by omega) (by subst hy9; first | exact ag_t c_17 | exact ag_f c_17) (by omega) _ _ _ hW hl
        · refine lv_iload_n hx hb dX1_layTheSameAgain_20 rfl (lv_at hl 1 rfl) ?_
          refine lv_aload_n hx hb dX1_layTheSameAgain_21 rfl (lv_at hl 2 rfl) ?_
          refine z_get (C := RX1) (T := TX1) (N := 2) hx hb hts mw_X1_layTheSameAgain_2 hown hX hW 0 rfl rfl 0 (by decide) mw_X1_layTheSameAgain_1 (fun _ h9 => h9) rfl dX1_layTheSameAgain_22 ?_
          refine lv_iload_n hx hb dX1_layTheSameAgain_25 rfl (lv_at hl 0 rfl) ?_
          refine z_iald hx hb hX hW 1 rfl (k := j) (by omega) (by omega) dX1_layTheSameAgain_26 ?_
          refine lv_aload_n hx hb dX1_layTheSameAgain_27 rfl (lv_at hl 2 rfl) ?_
          refine z_get (C := RX1) (T := TX1) (N := 2) hx hb hts mw_X1_layTheSameAgain_2 hown hX hW 0 rfl rfl 1 (by decide) mw_X1_layTheSameAgain_3 (fun _ h9 => h9) rfl dX1_layTheSameAgain_28 ?_
          refine lv_iload_n hx hb dX1_layTheSameAgain_31 rfl (lv_at hl 0 rfl) ?_
          refine z_iald hx hb hX hW 2 rfl (k := j) (by omega) (by omega) dX1_layTheSameAgain_32 ?_
          refine lv_idiv hx hb dX1_layTheSameAgain_33 (fun h9 => c_17 (by rw [h9]; exact Int32.le_refl 0)) ?_
          refine va_mmin hx hb (hml.trans hl.1.symm) hown (hts _ mw_X1_layTheSameAgain_4) (hts _ mw_X1_layTheSameAgain_5) (hts _ mw_X1_layTheSameAgain_6) (hts _ mw_X1_layTheSameAgain_7) (Nat.le_of_ble_eq_true rfl) (Nat.le_of_ble_eq_true rfl) (Nat.le_of_ble_eq_true rfl) (Nat.le_of_ble_eq_true rfl) dX1_layTheSameAgain_34 ?_
          refine zw_topi (y := (mn y (lf j / tk j))) (rfl) ?_
          refine lv_istore_n (lv' := [(1, .int (mn y (lf j / tk j))), (2, .int (nI j)), (0, .ref z)]) hx hb dX1_layTheSameAgain_37 rfl hl (by decide) rfl (fun ls hl => ?_)
          refine lv_iinc (v := nI (j + 1)) (lv' := [(2, .int (nI (j + 1))), (1, .int (mn y (lf j / tk j))), (0, .ref z)]) hx hb dX1_layTheSameAgain_38 hl (k := 1) rfl (zinc1 _) (by decide) rfl (fun ls hl => ?_)
          refine lv_goto (tgt := 5) hx hb dX1_layTheSameAgain_41 (by decide) ?_
          have hl : lv_has ls 3 [(2, .int (nI (j + 1))), (1, .int (mn y (lf j / tk j))), (0, .ref z)] := lv_sub hl [0, 1, 2] rfl
          exact ih_5 (j + 1) (mn y (lf j / tk j)) (by omega) (by subst hy9; first | exact ag_t c_17 | exact ag_f c_17) (by omega) _ _ _ hW hl
  have hl : lv_has ls 3 [(2, .int (nI 0)), (1, .int (nI 2147483647)), (0, .ref z)] := lv_sub hl [0, 1, 2] rfl
  exact loop_5 _ 0 (nI 2147483647) (by omega) rfl (Nat.lt_succ_self _) _ _ _ hW hl
