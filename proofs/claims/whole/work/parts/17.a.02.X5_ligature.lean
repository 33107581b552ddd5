theorem mw_X5_ligature_0 : Cond.fieldLink RX5 29 "TypeFoundryModel" "letter" "[I" ∈ wsX5_ligature := by decide +kernel
theorem mw_X5_ligature_1 : ∀ w ∈ wsX50, w ∈ wsX5_ligature := by decide +kernel
theorem mw_X5_ligature_2 : Cond.fieldLink RX5 87 "TypeFoundryModel" "letters" "I" ∈ wsX5_ligature := by decide +kernel
abbrev wp_X5_ligature (Z : zT) (o0 o1 o2 o3 o4 o5 o6 o7 o8 np : Nat) (th dy me co ca br ml : Int32) (E : Nat → Int32) (k : Nat) (t : Nat → Nat) (i : Nat) : Unit → va_W := fun (u : Unit) => [(o0, .inr (5, [.int th, .int dy, .int me, .int co, .int (nI np), .int ca, .int br, .int ml, .ref o1, .ref o2, .ref o3, .ref o4, .ref o5, .ref o6, .int (nI k), .ref o7, .ref o8])), (o6, zI Z 6 E)]
abbrev po_X5_ligature (Z : zT) (o0 o1 o2 o3 o4 o5 o6 o7 o8 np : Nat) (th dy me co ca br ml : Int32) (E : Nat → Int32) (k : Nat) (t : Nat → Nat) (i : Nat) : Int32 → Unit → Prop := fun (r : Int32) (u : Unit) => r = glI (gl t k i)
abbrev rm_X5_ligature : Room := { frames := 0, cells := 0, slots := 0, locals := 0 }
set_option maxHeartbeats 4000000 in
set_option maxRecDepth 100000 in
theorem c_X5_ligature (l : Launch) (Z : zT) (o0 o1 o2 o3 o4 o5 o6 o7 o8 np : Nat) (th dy me co ca br ml : Int32) (E : Nat → Int32) (k : Nat) (t : Nat → Nat) (i : Nat) (hw9 : wdM k t E) (hi : i < k) : zMet l yX5_ligature wsX5_ligature rm_X5_ligature [.ref o0, .int (nI i)] Z [(o0, .inr (5, [.int th, .int dy, .int me, .int co, .int (nI np), .int ca, .int br, .int ml, .ref o1, .ref o2, .ref o3, .ref o4, .ref o5, .ref o6, .int (nI k), .ref o7, .ref o8])), (o6, zI Z 6 E)] (zQi Z (po_X5_ligature Z o0 o1 o2 o3 o4 o5 o6 o7 o8 np th dy me co ca br ml E k t i) (wp_X5_ligature Z o0 o1 o2 o3 o4 o5 o6 o7 o8 np th dy me co ca br ml E k t i)) 0 0 := by
  refine zstart (cc := cX5_ligature) (maxL := 3) (ret := (some .int)) (by decide) rfl (Nat.le_of_ble_eq_true rfl) ?_
  intro p e s m below meth c ls A hx hb hr hC hlk hnm hX hW hl
  have hml := hC.2.2.1
  have hown : s.vm.findClass RX5 = some m.cls := hC.2.2.2.1
  have hts := hC.2.2.2.2
  have hl : lv_has ls 3 [(0, .ref o0), (1, .int (nI i))] := hl
  have hw8 := hw9.2.1
  have hw7 := hw9.2.2.1 i hi
  refine lv_aload_n hx hb dX5_ligature_0 rfl (lv_at hl 0 rfl) ?_
  refine z_get (C := RX5) (T := TX5) (N := 17) hx hb hts mw_X5_ligature_1 hown hX hW 0 rfl rfl 13 (by decide) mw_X5_ligature_0 (fun _ h9 => h9) rfl dX5_ligature_1 ?_
  refine lv_iload_n hx hb dX5_ligature_4 rfl (lv_at hl 1 rfl) ?_
  refine z_iald hx hb hX hW 1 rfl (k := i) (by omega) (by omega) dX5_ligature_5 ?_
  refine zw_topi (y := (nI (t i))) (hw9.2.2.2 i hi) ?_
  refine lv_iconst (v := nI 5) hx hb dX5_ligature_6 (by decide) ?_
  refine zn_icmp_ne (tgt := 20) (a := (t i)) (b := 5) hx hb (by omega) (by omega) dX5_ligature_7 (by decide) (fun c_7 => ?_) (fun c_7 => ?_)
  · refine lv_iconst (v := -1) hx hb dX5_ligature_20 (by decide) ?_
    exact z_iret hx hb hr hlk hW () (by unfold po_X5_ligature; first | (rw [gl_n5 c_7]; rfl) | (unfold gl; rw [if_neg (by omega)]; rfl)) (rfl) (by omega) (by omega) dX5_ligature_21
  · refine lv_iload_n hx hb dX5_ligature_10 rfl (lv_at hl 1 rfl) ?_
    refine lv_aload_n hx hb dX5_ligature_11 rfl (lv_at hl 0 rfl) ?_
    refine z_get (C := RX5) (T := TX5) (N := 17) hx hb hts mw_X5_ligature_1 hown hX hW 0 rfl rfl 14 (by decide) mw_X5_ligature_2 (fun _ h9 => h9) rfl dX5_ligature_12 ?_
    refine lv_iconst (v := nI 1) hx hb dX5_ligature_15 (by decide) ?_
    refine lv_isub hx hb dX5_ligature_16 ?_
    refine zw_topi (y := (nI (k - 1))) (pk_sub (by omega)) ?_
    refine zn_icmp_ne (tgt := 22) (a := i) (b := (k - 1)) hx hb (by omega) (by omega) dX5_ligature_17 (by decide) (fun c_17 => ?_) (fun c_17 => ?_)
    · have hi1 : i + 1 < k := by omega
      have hw6 := hw9.2.2.1 (i + 1) hi1
      refine lv_aload_n hx hb dX5_ligature_22 rfl (lv_at hl 0 rfl) ?_
      refine z_get (C := RX5) (T := TX5) (N := 17) hx hb hts mw_X5_ligature_1 hown hX hW 0 rfl rfl 13 (by decide) mw_X5_ligature_0 (fun _ h9 => h9) rfl dX5_ligature_23 ?_
      refine lv_iload_n hx hb dX5_ligature_26 rfl (lv_at hl 1 rfl) ?_
      refine lv_iconst (v := nI 1) hx hb dX5_ligature_27 (by decide) ?_
      refine lv_iadd hx hb dX5_ligature_28 ?_
      refine zw_topi (nI_add _ _) ?_
      refine z_iald hx hb hX hW 1 rfl (k := (i + 1)) (by omega) (by omega) dX5_ligature_29 ?_
      refine zw_topi (y := (nI (t (i + 1)))) (hw9.2.2.2 (i + 1) hi1) ?_
      refine lv_istore_n (lv' := [(2, .int (nI (t (i + 1)))), (0, .ref o0), (1, .int (nI i))]) hx hb dX5_ligature_30 rfl hl (by decide) rfl (fun ls hl => ?_)
      refine lv_iload_n hx hb dX5_ligature_31 rfl (lv_at hl 0 rfl) ?_
      refine lv_bipush (v := nI 8) hx hb dX5_ligature_32 (by decide) ?_
      refine zn_icmp_ne (tgt := 42) (a := (t (i + 1))) (b := 8) hx hb (by omega) (by omega) dX5_ligature_34 (by decide) (fun c_34 => ?_) (fun c_34 => ?_)
      · refine lv_iload_n hx hb dX5_ligature_42 rfl (lv_at hl 0 rfl) ?_
        refine lv_bipush (v := nI 11) hx hb dX5_ligature_43 (by decide) ?_
        refine zn_icmp_ne (tgt := 53) (a := (t (i + 1))) (b := 11) hx hb (by omega) (by omega) dX5_ligature_45 (by decide) (fun c_45 => ?_) (fun c_45 => ?_)
        · refine lv_iload_n hx hb dX5_ligature_53 rfl (lv_at hl 0 rfl) ?_
          refine lv_iconst (v := nI 5) hx hb dX5_ligature_54 (by decide) ?_
          refine zn_icmp_ne (tgt := 63) (a := (t (i + 1))) (b := 5) hx hb (by omega) (by omega) dX5_ligature_55 (by decide) (fun c_55 => ?_) (fun c_55 => ?_)
          · refine lv_iconst (v := -1) hx hb dX5_ligature_63 (by decide) ?_
            exact z_iret hx hb hr hlk hW () (by unfold po_X5_ligature; unfold gl lgN; rw [if_pos hi1, if_pos c_7]; first | (rw [if_pos c_34]; rfl) | (rw [if_neg c_34, if_pos c_45]; rfl) | (rw [if_neg c_34, if_neg c_45, if_pos c_55]; rfl) | (rw [if_neg c_34, if_neg c_45, if_neg c_55]; rfl)) (rfl) (by omega) (by omega) dX5_ligature_64
          · refine lv_bipush (v := nI 28) hx hb dX5_ligature_58 (by decide) ?_
            refine lv_goto (tgt := 64) hx hb dX5_ligature_60 (by decide) ?_
            exact z_iret hx hb hr hlk hW () (by unfold po_X5_ligature; unfold gl lgN; rw [if_pos hi1, if_pos c_7]; first | (rw [if_pos c_34]; rfl) | (rw [if_neg c_34, if_pos c_45]; rfl) | (rw [if_neg c_34, if_neg c_45, if_pos c_55]; rfl) | (rw [if_neg c_34, if_neg c_45, if_neg c_55]; rfl)) (rfl) (by omega) (by omega) dX5_ligature_64
        · refine lv_bipush (v := nI 27) hx hb dX5_ligature_48 (by decide) ?_
          refine lv_goto (tgt := 64) hx hb dX5_ligature_50 (by decide) ?_
          exact z_iret hx hb hr hlk hW () (by unfold po_X5_ligature; unfold gl lgN; rw [if_pos hi1, if_pos c_7]; first | (rw [if_pos c_34]; rfl) | (rw [if_neg c_34, if_pos c_45]; rfl) | (rw [if_neg c_34, if_neg c_45, if_pos c_55]; rfl) | (rw [if_neg c_34, if_neg c_45, if_neg c_55]; rfl)) (rfl) (by omega) (by omega) dX5_ligature_64
      · refine lv_bipush (v := nI 26) hx hb dX5_ligature_37 (by decide) ?_
        refine lv_goto (tgt := 64) hx hb dX5_ligature_39 (by decide) ?_
        exact z_iret hx hb hr hlk hW () (by unfold po_X5_ligature; unfold gl lgN; rw [if_pos hi1, if_pos c_7]; first | (rw [if_pos c_34]; rfl) | (rw [if_neg c_34, if_pos c_45]; rfl) | (rw [if_neg c_34, if_neg c_45, if_pos c_55]; rfl) | (rw [if_neg c_34, if_neg c_45, if_neg c_55]; rfl)) (rfl) (by omega) (by omega) dX5_ligature_64
    · refine lv_iconst (v := -1) hx hb dX5_ligature_20 (by decide) ?_
      exact z_iret hx hb hr hlk hW () (by unfold po_X5_ligature; first | (rw [gl_n5 c_7]; rfl) | (unfold gl; rw [if_neg (by omega)]; rfl)) (rfl) (by omega) (by omega) dX5_ligature_21
