theorem mw_X4_buy_0 : Cond.classLink RX4 71 (zEx 2) ∈ wsX4_buy := by decide +kernel
theorem mw_X4_buy_1 : Cond.initialized (zEx 2) ∈ wsX4_buy := by decide +kernel
theorem mw_X4_buy_2 : ∀ w ∈ (vx_atS RX4 75 (zEx 2) zEs).filter goodWord, w ∈ wsX4_buy := by decide +kernel
theorem mw_X4_buy_3 : Cond.fieldLink RX4 22 "TypeFoundry" "metal" "I" ∈ wsX4_buy := by decide +kernel
theorem mw_X4_buy_4 : ∀ w ∈ wsX40, w ∈ wsX4_buy := by decide +kernel
theorem mw_X4_buy_5 : Cond.classLink RX4 51 (zEx 3) ∈ wsX4_buy := by decide +kernel
theorem mw_X4_buy_6 : Cond.initialized (zEx 3) ∈ wsX4_buy := by decide +kernel
theorem mw_X4_buy_7 : ∀ w ∈ (vx_atS RX4 55 (zEx 3) zEs).filter goodWord, w ∈ wsX4_buy := by decide +kernel
abbrev wp_X4_buy (Z : zT) (x st sb pa sp spb se sl sk np : Nat) (S : Nat → Int32) (dy me co ca br ml fp : Int32) (L lf tk : Nat → Int32) (ad : Nat → Nat → Nat) (F G pn : Nat → Nat → Int32) (bv : Int32) : Unit → va_W := fun (u : Unit) => ((x, .inr (4, [.ref st, .ref pa, .int (nI np), .int dy, .int (me + bv), .int co, .int ca, .int br, .int ml, .ref sp, .ref se])) :: (st, .inr (2, [.ref sb])) :: (sb, zI Z 290 S) :: (pa, zQ Z 6 (pav ad np)) :: (sp, .inr (3, [.ref spb, .int fp])) :: (spb, zI Z 6 L) :: (se, .inr (1, [.ref sl, .ref sk])) :: (sl, zI Z 29 lf) :: (sk, zI Z 29 tk) :: zpool np (pcs Z ad F G pn))
abbrev po_X4_buy (Z : zT) (x st sb pa sp spb se sl sk np : Nat) (S : Nat → Int32) (dy me co ca br ml fp : Int32) (L lf tk : Nat → Int32) (ad : Nat → Nat → Nat) (F G pn : Nat → Nat → Int32) (bv : Int32) : Int32 → Unit → Prop := fun (r : Int32) (u : Unit) => 0 = cdx (False) (¬ inR bv 1 2000) (¬ me + bv ≤ nI 9999) ∧ r = me + bv
abbrev wx_X4_buy (Z : zT) (x st sb pa sp spb se sl sk np : Nat) (S : Nat → Int32) (dy me co ca br ml fp : Int32) (L lf tk : Nat → Int32) (ad : Nat → Nat → Nat) (F G pn : Nat → Nat → Int32) (bv : Int32) : Unit → va_W := fun (u : Unit) => ((x, .inr (4, [.ref st, .ref pa, .int (nI np), .int dy, .int me, .int co, .int ca, .int br, .int ml, .ref sp, .ref se])) :: (st, .inr (2, [.ref sb])) :: (sb, zI Z 290 S) :: (pa, zQ Z 6 (pav ad np)) :: (sp, .inr (3, [.ref spb, .int fp])) :: (spb, zI Z 6 L) :: (se, .inr (1, [.ref sl, .ref sk])) :: (sl, zI Z 29 lf) :: (sk, zI Z 29 tk) :: zpool np (pcs Z ad F G pn))
abbrev px_X4_buy (Z : zT) (x st sb pa sp spb se sl sk np : Nat) (S : Nat → Int32) (dy me co ca br ml fp : Int32) (L lf tk : Nat → Int32) (ad : Nat → Nat → Nat) (F G pn : Nat → Nat → Int32) (bv : Int32) : Nat → Unit → Prop := fun (k : Nat) (u : Unit) => 1 ≤ k ∧ k = cdx (False) (¬ inR bv 1 2000) (¬ me + bv ≤ nI 9999)
abbrev rm_X4_buy : Room := { frames := 6, cells := 5, slots := 30, locals := 82 }
set_option maxHeartbeats 4000000 in
set_option maxRecDepth 100000 in
theorem c_X4_buy (l : Launch) (Z : zT) (x st sb pa sp spb se sl sk np : Nat) (S : Nat → Int32) (dy me co ca br ml fp : Int32) (L lf tk : Nat → Int32) (ad : Nat → Nat → Nat) (F G pn : Nat → Nat → Int32) (bv : Int32) (hfl : l.stackTraces = false) (hnp : np ≤ 6) : zTet l yX4_buy wsX4_buy rm_X4_buy [.ref x, .int bv] Z ((x, .inr (4, [.ref st, .ref pa, .int (nI np), .int dy, .int me, .int co, .int ca, .int br, .int ml, .ref sp, .ref se])) :: (st, .inr (2, [.ref sb])) :: (sb, zI Z 290 S) :: (pa, zQ Z 6 (pav ad np)) :: (sp, .inr (3, [.ref spb, .int fp])) :: (spb, zI Z 6 L) :: (se, .inr (1, [.ref sl, .ref sk])) :: (sl, zI Z 29 lf) :: (sk, zI Z 29 tk) :: zpool np (pcs Z ad F G pn)) (zQi Z (po_X4_buy Z x st sb pa sp spb se sl sk np S dy me co ca br ml fp L lf tk ad F G pn bv) (wp_X4_buy Z x st sb pa sp spb se sl sk np S dy me co ca br ml fp L lf tk ad F G pn bv)) (zXC Z (px_X4_buy Z x st sb pa sp spb se sl sk np S dy me co ca br ml fp L lf tk ad F G pn bv) (wx_X4_buy Z x st sb pa sp spb se sl sk np S dy me co ca br ml fp L lf tk ad F G pn bv)) 5 30 := by
  refine ztstart (cc := cX4_buy) (maxL := 2) (ret := (some .int)) (by decide) rfl (Nat.le_of_ble_eq_true rfl) ?_
  intro p e s m below meth c ls A hx hb hr hC hlk hno hX hW hl
  have hml := hC.2.2.1
  have hown : s.vm.findClass RX4 = some m.cls := hC.2.2.2.1
  have hts := hC.2.2.2.2
  have hl : lv_has ls 2 [(0, .ref x), (1, .int bv)] := hl
  refine lv_iload_n hx hb dX4_buy_0 rfl (lv_at hl 1 rfl) ?_
  refine lv_iconst (v := nI 1) hx hb dX4_buy_1 (by decide) ?_
  refine lv_icmp_lt (tgt := 12) hx hb dX4_buy_2 (by decide) (fun c_2 => ?_) (fun c_2 => ?_)
  · exact z_throw hx hb hfl hC 2 zfit2 mw_X4_buy_0 mw_X4_buy_1 mw_X4_buy_2 zng2 zgd2 (is := 87) (text := "metal is not 1 to 2000") (by decide +kernel) hX hW hl.1 dX4_buy_12 dX4_buy_15 dX4_buy_16 dX4_buy_18 dX4_buy_21 hno hlk (Nat.le_of_ble_eq_true rfl) (Nat.le_of_ble_eq_true rfl) (Nat.le_of_ble_eq_true rfl) (Nat.le_of_ble_eq_true rfl) () (⟨by omega, cdx_2 (fun h6 => h6) (by first | exact inR_lo c_2 | exact inR_hi c_9)⟩) (rfl) (Nat.le_of_ble_eq_true rfl) (Nat.le_of_ble_eq_true rfl)
  · refine lv_iload_n hx hb dX4_buy_5 rfl (lv_at hl 1 rfl) ?_
    refine lv_sipush (v := nI 2000) hx hb dX4_buy_6 (by decide) ?_
    refine lv_icmp_le (tgt := 22) hx hb dX4_buy_9 (by decide) (fun c_9 => ?_) (fun c_9 => ?_)
    · have hB9 := inR_of c_2 c_9
      refine lv_aload_n hx hb dX4_buy_22 rfl (lv_at hl 0 rfl) ?_
      refine z_get (C := RX4) (T := TX4) (N := 11) hx hb hts mw_X4_buy_4 hown hX hW 0 rfl rfl 4 (by decide) mw_X4_buy_3 (fun _ h9 => h9) rfl dX4_buy_23 ?_
      refine lv_iload_n hx hb dX4_buy_26 rfl (lv_at hl 1 rfl) ?_
      refine lv_iadd hx hb dX4_buy_27 ?_
      refine lv_sipush (v := nI 9999) hx hb dX4_buy_28 (by decide) ?_
      refine lv_icmp_le (tgt := 44) hx hb dX4_buy_31 (by decide) (fun c_31 => ?_) (fun c_31 => ?_)
      · refine lv_aload_n hx hb dX4_buy_44 rfl (lv_at hl 0 rfl) ?_
        refine lv_dup hx hb dX4_buy_45 rfl ?_
        refine z_get (C := RX4) (T := TX4) (N := 11) hx hb hts mw_X4_buy_4 hown hX hW 0 rfl rfl 4 (by decide) mw_X4_buy_3 (fun _ h9 => h9) rfl dX4_buy_46 ?_
        refine lv_iload_n hx hb dX4_buy_49 rfl (lv_at hl 1 rfl) ?_
        refine lv_iadd hx hb dX4_buy_50 ?_
        refine z_put (C := RX4) (T := TX4) (N := 11) (v := .int (me + bv)) (ty := .int) hx hb hts mw_X4_buy_4 tyX4 tyX4_ok nmX4 hown hX hW 0 rfl rfl 4 (by decide) mw_X4_buy_3 (fun _ h9 => h9) rfl (by decide +kernel) rfl rfl (Nat.le_of_ble_eq_true rfl) dX4_buy_51 (fun H locs hW => ?_)
        have hW : zW Z s A ((x, .inr (4, [.ref st, .ref pa, .int (nI np), .int dy, .int (me + bv), .int co, .int ca, .int br, .int ml, .ref sp, .ref se])) :: (st, .inr (2, [.ref sb])) :: (sb, zI Z 290 S) :: (pa, zQ Z 6 (pav ad np)) :: (sp, .inr (3, [.ref spb, .int fp])) :: (spb, zI Z 6 L) :: (se, .inr (1, [.ref sl, .ref sk])) :: (sl, zI Z 29 lf) :: (sk, zI Z 29 tk) :: zpool np (pcs Z ad F G pn)) _ _ := hW
        refine lv_aload_n hx hb dX4_buy_54 rfl (lv_at hl 0 rfl) ?_
        refine z_get (C := RX4) (T := TX4) (N := 11) hx hb hts mw_X4_buy_4 hown hX hW 0 rfl rfl 4 (by decide) mw_X4_buy_3 (fun _ h9 => h9) rfl dX4_buy_55 ?_
        refine vx_ret ?_
        exact z_iret hx hb hr hlk hW () (⟨cdx_0 (fun h6 => h6) (fun h6 => h6 hB9) (fun h6 => h6 c_31), rfl⟩) (rfl) (by omega) (by omega) dX4_buy_58
      · exact z_throw hx hb hfl hC 3 zfit3 mw_X4_buy_5 mw_X4_buy_6 mw_X4_buy_7 zng3 zgd3 (is := 79) (text := "there would be more than 9999 of metal") (by decide +kernel) hX hW hl.1 dX4_buy_34 dX4_buy_37 dX4_buy_38 dX4_buy_40 dX4_buy_43 hno hlk (Nat.le_of_ble_eq_true rfl) (Nat.le_of_ble_eq_true rfl) (Nat.le_of_ble_eq_true rfl) (Nat.le_of_ble_eq_true rfl) () (⟨by omega, cdx_3 (fun h6 => h6) (fun h6 => h6 hB9) c_31⟩) (rfl) (Nat.le_of_ble_eq_true rfl) (Nat.le_of_ble_eq_true rfl)
    · exact z_throw hx hb hfl hC 2 zfit2 mw_X4_buy_0 mw_X4_buy_1 mw_X4_buy_2 zng2 zgd2 (is := 87) (text := "metal is not 1 to 2000") (by decide +kernel) hX hW hl.1 dX4_buy_12 dX4_buy_15 dX4_buy_16 dX4_buy_18 dX4_buy_21 hno hlk (Nat.le_of_ble_eq_true rfl) (Nat.le_of_ble_eq_true rfl) (Nat.le_of_ble_eq_true rfl) (Nat.le_of_ble_eq_true rfl) () (⟨by omega, cdx_2 (fun h6 => h6) (by first | exact inR_lo c_2 | exact inR_hi c_9)⟩) (rfl) (Nat.le_of_ble_eq_true rfl) (Nat.le_of_ble_eq_true rfl)
