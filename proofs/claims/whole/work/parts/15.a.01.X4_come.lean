theorem mw_X4_come_0 : Cond.classLink RX4 71 (zEx 2) ∈ wsX4_come := by decide +kernel
theorem mw_X4_come_1 : Cond.initialized (zEx 2) ∈ wsX4_come := by decide +kernel
theorem mw_X4_come_2 : ∀ w ∈ (vx_atS RX4 75 (zEx 2) zEs).filter goodWord, w ∈ wsX4_come := by decide +kernel
theorem mw_X4_come_3 : Cond.fieldLink RX4 91 "TypeFoundry" "printersThere" "I" ∈ wsX4_come := by decide +kernel
theorem mw_X4_come_4 : ∀ w ∈ wsX40, w ∈ wsX4_come := by decide +kernel
theorem mw_X4_come_5 : Cond.fieldLink RX4 18 "TypeFoundry" "printers" "[LTypeFoundry$Printer;" ∈ wsX4_come := by decide +kernel
theorem mw_X4_come_6 : ∀ w ∈ wsX00, w ∈ wsX4_come := by decide +kernel
theorem mw_X4_come_7 : Cond.classLink RX4 16 RX0 ∈ wsX4_come := by decide +kernel
theorem mw_X4_come_8 : Cond.instantiable RX0 6 ∈ wsX4_come := by decide +kernel
theorem mw_X4_come_9 : Cond.initialized RX0 ∈ wsX4_come := by decide +kernel
theorem mw_X4_come_10 : Cond.methodLink RX4 96 yX0_init ∈ wsX4_come := by decide +kernel
theorem mw_X4_come_11 : Cond.instanceMethod yX0_init ∈ wsX4_come := by decide +kernel
theorem mw_X4_come_12 : Cond.classLink RX4 51 (zEx 3) ∈ wsX4_come := by decide +kernel
theorem mw_X4_come_13 : Cond.initialized (zEx 3) ∈ wsX4_come := by decide +kernel
theorem mw_X4_come_14 : ∀ w ∈ (vx_atS RX4 55 (zEx 3) zEs).filter goodWord, w ∈ wsX4_come := by decide +kernel
abbrev wp_X4_come (Z : zT) (x st sb pa sp spb se sl sk np : Nat) (S : Nat → Int32) (dy me co ca br ml fp : Int32) (L lf tk : Nat → Int32) (ad : Nat → Nat → Nat) (F G pn : Nat → Nat → Int32) (cv : Int32) : (Nat → Nat) → va_W := fun (u : (Nat → Nat)) => match u with | an => ((x, .inr (4, [.ref st, .ref pa, .int (nI (np + 1)), .int dy, .int me, .int co, .int ca, .int br, .int ml, .ref sp, .ref se])) :: (st, .inr (2, [.ref sb])) :: (sb, zI Z 290 S) :: (pa, zQ Z 6 (pav (up ad np an) (np + 1))) :: (sp, .inr (3, [.ref spb, .int fp])) :: (spb, zI Z 6 L) :: (se, .inr (1, [.ref sl, .ref sk])) :: (sl, zI Z 29 lf) :: (sk, zI Z 29 tk) :: zpool (np + 1) (pcs Z (up ad np an) (up F np (fun _ => 0)) (up G np (fun _ => 0)) (up pn np (q4 cv 0 0 0))))
abbrev po_X4_come (Z : zT) (x st sb pa sp spb se sl sk np : Nat) (S : Nat → Int32) (dy me co ca br ml fp : Int32) (L lf tk : Nat → Int32) (ad : Nat → Nat → Nat) (F G pn : Nat → Nat → Int32) (cv : Int32) : Int32 → (Nat → Nat) → Prop := fun (r : Int32) (u : (Nat → Nat)) => match u with | an => 0 = cdx (False) (¬ (¬ cv < 0 ∧ cv ≤ nI 5000)) (np = 6) ∧ r = nI np
abbrev wx_X4_come (Z : zT) (x st sb pa sp spb se sl sk np : Nat) (S : Nat → Int32) (dy me co ca br ml fp : Int32) (L lf tk : Nat → Int32) (ad : Nat → Nat → Nat) (F G pn : Nat → Nat → Int32) (cv : Int32) : Unit → va_W := fun (u : Unit) => ((x, .inr (4, [.ref st, .ref pa, .int (nI np), .int dy, .int me, .int co, .int ca, .int br, .int ml, .ref sp, .ref se])) :: (st, .inr (2, [.ref sb])) :: (sb, zI Z 290 S) :: (pa, zQ Z 6 (pav ad np)) :: (sp, .inr (3, [.ref spb, .int fp])) :: (spb, zI Z 6 L) :: (se, .inr (1, [.ref sl, .ref sk])) :: (sl, zI Z 29 lf) :: (sk, zI Z 29 tk) :: zpool np (pcs Z ad F G pn))
abbrev px_X4_come (Z : zT) (x st sb pa sp spb se sl sk np : Nat) (S : Nat → Int32) (dy me co ca br ml fp : Int32) (L lf tk : Nat → Int32) (ad : Nat → Nat → Nat) (F G pn : Nat → Nat → Int32) (cv : Int32) : Nat → Unit → Prop := fun (k : Nat) (u : Unit) => 1 ≤ k ∧ k = cdx (False) (¬ (¬ cv < 0 ∧ cv ≤ nI 5000)) (np = 6)
abbrev rm_X4_come : Room := { frames := 6, cells := 5, slots := 600, locals := 82 }
set_option maxHeartbeats 4000000 in
set_option maxRecDepth 100000 in
theorem c_X4_come (l : Launch) (Z : zT) (x st sb pa sp spb se sl sk np : Nat) (S : Nat → Int32) (dy me co ca br ml fp : Int32) (L lf tk : Nat → Int32) (ad : Nat → Nat → Nat) (F G pn : Nat → Nat → Int32) (cv : Int32) (hfl : l.stackTraces = false) (hnp : np ≤ 6) : zTet l yX4_come wsX4_come rm_X4_come [.ref x, .int cv] Z ((x, .inr (4, [.ref st, .ref pa, .int (nI np), .int dy, .int me, .int co, .int ca, .int br, .int ml, .ref sp, .ref se])) :: (st, .inr (2, [.ref sb])) :: (sb, zI Z 290 S) :: (pa, zQ Z 6 (pav ad np)) :: (sp, .inr (3, [.ref spb, .int fp])) :: (spb, zI Z 6 L) :: (se, .inr (1, [.ref sl, .ref sk])) :: (sl, zI Z 29 lf) :: (sk, zI Z 29 tk) :: zpool np (pcs Z ad F G pn)) (zQi Z (po_X4_come Z x st sb pa sp spb se sl sk np S dy me co ca br ml fp L lf tk ad F G pn cv) (wp_X4_come Z x st sb pa sp spb se sl sk np S dy me co ca br ml fp L lf tk ad F G pn cv)) (zXC Z (px_X4_come Z x st sb pa sp spb se sl sk np S dy me co ca br ml fp L lf tk ad F G pn cv) (wx_X4_come Z x st sb pa sp spb se sl sk np S dy me co ca br ml fp L lf tk ad F G pn cv)) 5 600 := by
  refine ztstart (cc := cX4_come) (maxL := 3) (ret := (some .int)) (by decide) rfl (Nat.le_of_ble_eq_true rfl) ?_
  intro p e s m below meth c ls A hx hb hr hC hlk hno hX hW hl
  have hml := hC.2.2.1
  have hown : s.vm.findClass RX4 = some m.cls := hC.2.2.2.1
  have hts := hC.2.2.2.2
  have hl : lv_has ls 3 [(0, .ref x), (1, .int cv)] := hl
  refine lv_iload_n hx hb dX4_come_0 rfl (lv_at hl 1 rfl) ?_
  refine lv_if_lt (tgt := 11) hx hb dX4_come_1 (by decide) (fun c_1 => ?_) (fun c_1 => ?_)
  · exact z_throw hx hb hfl hC 2 zfit2 mw_X4_come_0 mw_X4_come_1 mw_X4_come_2 zng2 zgd2 (is := 89) (text := "coins is not 0 to 5000") (by decide +kernel) hX hW hl.1 dX4_come_11 dX4_come_14 dX4_come_15 dX4_come_17 dX4_come_20 hno hlk (Nat.le_of_ble_eq_true rfl) (Nat.le_of_ble_eq_true rfl) (Nat.le_of_ble_eq_true rfl) (Nat.le_of_ble_eq_true rfl) () (⟨by omega, cdx_2 (fun h6 => h6) (fun h6 => by first | exact h6.1 c_1 | exact c_8 h6.2)⟩) (rfl) (Nat.le_of_ble_eq_true rfl) (Nat.le_of_ble_eq_true rfl)
  · refine lv_iload_n hx hb dX4_come_4 rfl (lv_at hl 1 rfl) ?_
    refine lv_sipush (v := nI 5000) hx hb dX4_come_5 (by decide) ?_
    refine lv_icmp_le (tgt := 21) hx hb dX4_come_8 (by decide) (fun c_8 => ?_) (fun c_8 => ?_)
    · refine lv_aload_n hx hb dX4_come_21 rfl (lv_at hl 0 rfl) ?_
      refine z_get (C := RX4) (T := TX4) (N := 11) hx hb hts mw_X4_come_4 hown hX hW 0 rfl rfl 2 (by decide) mw_X4_come_3 (fun _ h9 => h9) rfl dX4_come_22 ?_
      refine lv_istore_n (lv' := [(2, .int (nI np)), (0, .ref x), (1, .int cv)]) hx hb dX4_come_25 rfl hl (by decide) rfl (fun ls hl => ?_)
      refine lv_iload_n hx hb dX4_come_26 rfl (lv_at hl 0 rfl) ?_
      refine zn_if_lt (tgt := 39) (a := np) hx hb (by omega) dX4_come_27 (by decide) ?_
      refine lv_iload_n hx hb dX4_come_30 rfl (lv_at hl 0 rfl) ?_
      refine lv_aload_n hx hb dX4_come_31 rfl (lv_at hl 1 rfl) ?_
      refine z_get (C := RX4) (T := TX4) (N := 11) hx hb hts mw_X4_come_4 hown hX hW 0 rfl rfl 1 (by decide) mw_X4_come_5 (fun _ h9 => h9) rfl dX4_come_32 ?_
      refine z_alenq hx hb hX hW 3 rfl dX4_come_35 ?_
      refine zn_icmp_lt (tgt := 49) (a := np) (b := 6) hx hb (by omega) (by omega) dX4_come_36 (by decide) (fun c_36 => ?_) (fun c_36 => ?_)
      · have hn5 : np < 6 := by omega
        refine lv_aload_n hx hb dX4_come_49 rfl (lv_at hl 1 rfl) ?_
        refine z_get (C := RX4) (T := TX4) (N := 11) hx hb hts mw_X4_come_4 hown hX hW 0 rfl rfl 1 (by decide) mw_X4_come_5 (fun _ h9 => h9) rfl dX4_come_50 ?_
        refine lv_iload_n hx hb dX4_come_53 rfl (lv_at hl 0 rfl) ?_
        refine z_new (ci := 0) (fs := [.null, .null, .int 0, .int 0, .int 0, .int 0]) (C := RX0) (T := TX0) (N := 6) hx hb hts mw_X4_come_6 tyX0 tyX0_ok hown mw_X4_come_7 mw_X4_come_8 mw_X4_come_9 hX hW rfl (fun j hj => by rcases (show j = 0 ∨ j = 1 ∨ j = 2 ∨ j = 3 ∨ j = 4 ∨ j = 5 by omega) with rfl | rfl | rfl | rfl | rfl | rfl <;> rfl) (Nat.le_of_ble_eq_true rfl) (Nat.le_of_ble_eq_true rfl) dX4_come_54 (fun qo_1 H hW => ?_)
        have hW := zW_perm hW (zmid [(x, .inr (4, [.ref st, .ref pa, .int (nI np), .int dy, .int me, .int co, .int ca, .int br, .int ml, .ref sp, .ref se])), (st, .inr (2, [.ref sb])), (sb, zI Z 290 S), (pa, zQ Z 6 (pav ad np)), (sp, .inr (3, [.ref spb, .int fp])), (spb, zI Z 6 L), (se, .inr (1, [.ref sl, .ref sk])), (sl, zI Z 29 lf), (sk, zI Z 29 tk)] (zpool np (pcs Z ad F G pn)) [(qo_1, .inr (0, [.null, .null, .int 0, .int 0, .int 0, .int 0]))])
        have hW : zW Z s A ((x, .inr (4, [.ref st, .ref pa, .int (nI np), .int dy, .int me, .int co, .int ca, .int br, .int ml, .ref sp, .ref se])) :: (st, .inr (2, [.ref sb])) :: (sb, zI Z 290 S) :: (pa, zQ Z 6 (pav ad np)) :: (sp, .inr (3, [.ref spb, .int fp])) :: (spb, zI Z 6 L) :: (se, .inr (1, [.ref sl, .ref sk])) :: (sl, zI Z 29 lf) :: (sk, zI Z 29 tk) :: (qo_1, .inr (0, [.null, .null, .int 0, .int 0, .int 0, .int 0])) :: zpool np (pcs Z ad F G pn)) _ _ := hW
        refine lv_dup hx hb dX4_come_57 rfl ?_
        refine lv_iload_n hx hb dX4_come_58 rfl (lv_at hl 2 rfl) ?_
        refine zc_vN (va_runI (As := [.int cv]) (rest := [.ref qo_1, .int (nI np), .ref pa]) hC (c_X0_init l Z qo_1 cv  _) (cwI 1 hts gX4_come_X0_init rfl rfl rfl (hts _ mw_X4_come_9) (hts _ mw_X4_come_10) (hts _ mw_X4_come_11) rfl (by decide +kernel) ⟨Nat.le_of_ble_eq_true rfl, Nat.le_of_ble_eq_true rfl⟩) (zpreS hX hW [9] rfl (by decide)) rfl rfl hl.1 rfl (lv_room (Nat.le_of_ble_eq_true rfl)) dX4_come_59 ⟨Nat.le_of_ble_eq_true rfl, Nat.le_of_ble_eq_true rfl⟩) hX hW [9] rfl (by decide) (wa := fun (u : Nat × Nat × Nat × Nat) => match u with | (q1, q2, q3, q5) => [(qo_1, .inr (0, [.ref q1, .ref q3, .int cv, .int 0, .int 0, .int 0]))]) (wb := fun (u : Nat × Nat × Nat × Nat) => match u with | (q1, q2, q3, q5) => [(q1, .inr (2, [.ref q2])), (q2, zI Z 290 (fun _ => 0)), (q3, .inr (2, [.ref q5])), (q5, zI Z 290 (fun _ => 0))]) (fun _ => rfl) (fun _ => rfl) (fun u_59 H locs h_59 hW => ?_)
        obtain ⟨q1_59, q2_59, q3_59, q5_59⟩ := u_59
        have hW := zW_perm hW (zmid [(x, .inr (4, [.ref st, .ref pa, .int (nI np), .int dy, .int me, .int co, .int ca, .int br, .int ml, .ref sp, .ref se])), (st, .inr (2, [.ref sb])), (sb, zI Z 290 S), (pa, zQ Z 6 (pav ad np)), (sp, .inr (3, [.ref spb, .int fp])), (spb, zI Z 6 L), (se, .inr (1, [.ref sl, .ref sk])), (sl, zI Z 29 lf), (sk, zI Z 29 tk), (qo_1, .inr (0, [.ref q1_59, .ref q3_59, .int cv, .int 0, .int 0, .int 0]))] (zpool np (pcs Z ad F G pn)) [(q1_59, .inr (2, [.ref q2_59])), (q2_59, zI Z 290 (fun _ => 0)), (q3_59, .inr (2, [.ref q5_59])), (q5_59, zI Z 290 (fun _ => 0))])
        have hW : zW Z s A ((x, .inr (4, [.ref st, .ref pa, .int (nI np), .int dy, .int me, .int co, .int ca, .int br, .int ml, .ref sp, .ref se])) :: (st, .inr (2, [.ref sb])) :: (sb, zI Z 290 S) :: (pa, zQ Z 6 (pav ad np)) :: (sp, .inr (3, [.ref spb, .int fp])) :: (spb, zI Z 6 L) :: (se, .inr (1, [.ref sl, .ref sk])) :: (sl, zI Z 29 lf) :: (sk, zI Z 29 tk) :: (qo_1, .inr (0, [.ref q1_59, .ref q3_59, .int cv, .int 0, .int 0, .int 0])) :: (q1_59, .inr (2, [.ref q2_59])) :: (q2_59, zI Z 290 (fun _ => 0)) :: (q3_59, .inr (2, [.ref q5_59])) :: (q5_59, zI Z 290 (fun _ => 0)) :: zpool np (pcs Z ad F G pn)) _ _ := hW
        refine z_astq hx hb hX hW 3 9 rfl rfl (k := np) (by omega) (by omega) dX4_come_62 (fun H locs hW => ?_)
        have hW : zW Z s A ((x, .inr (4, [.ref st, .ref pa, .int (nI np), .int dy, .int me, .int co, .int ca, .int br, .int ml, .ref sp, .ref se])) :: (st, .inr (2, [.ref sb])) :: (sb, zI Z 290 S) :: (pa, zQ Z 6 (va_up (pav ad np) np (some qo_1))) :: (sp, .inr (3, [.ref spb, .int fp])) :: (spb, zI Z 6 L) :: (se, .inr (1, [.ref sl, .ref sk])) :: (sl, zI Z 29 lf) :: (sk, zI Z 29 tk) :: (qo_1, .inr (0, [.ref q1_59, .ref q3_59, .int cv, .int 0, .int 0, .int 0])) :: (q1_59, .inr (2, [.ref q2_59])) :: (q2_59, zI Z 290 (fun _ => 0)) :: (q3_59, .inr (2, [.ref q5_59])) :: (q5_59, zI Z 290 (fun _ => 0)) :: zpool np (pcs Z ad F G pn)) _ _ := hW
        refine lv_aload_n hx hb dX4_come_63 rfl (lv_at hl 1 rfl) ?_
        refine lv_dup hx hb dX4_come_64 rfl ?_
        refine z_get (C := RX4) (T := TX4) (N := 11) hx hb hts mw_X4_come_4 hown hX hW 0 rfl rfl 2 (by decide) mw_X4_come_3 (fun _ h9 => h9) rfl dX4_come_65 ?_
        refine lv_iconst (v := nI 1) hx hb dX4_come_68 (by decide) ?_
        refine lv_iadd hx hb dX4_come_69 ?_
        refine zw_topi (nI_add _ _) ?_
        refine z_put (C := RX4) (T := TX4) (N := 11) (v := .int (nI (np + 1))) (ty := .int) hx hb hts mw_X4_come_4 tyX4 tyX4_ok nmX4 hown hX hW 0 rfl rfl 2 (by decide) mw_X4_come_3 (fun _ h9 => h9) rfl (by decide +kernel) rfl rfl (Nat.le_of_ble_eq_true rfl) dX4_come_70 (fun H locs hW => ?_)
        have hW : zW Z s A ((x, .inr (4, [.ref st, .ref pa, .int (nI (np + 1)), .int dy, .int me, .int co, .int ca, .int br, .int ml, .ref sp, .ref se])) :: (st, .inr (2, [.ref sb])) :: (sb, zI Z 290 S) :: (pa, zQ Z 6 (va_up (pav ad np) np (some qo_1))) :: (sp, .inr (3, [.ref spb, .int fp])) :: (spb, zI Z 6 L) :: (se, .inr (1, [.ref sl, .ref sk])) :: (sl, zI Z 29 lf) :: (sk, zI Z 29 tk) :: (qo_1, .inr (0, [.ref q1_59, .ref q3_59, .int cv, .int 0, .int 0, .int 0])) :: (q1_59, .inr (2, [.ref q2_59])) :: (q2_59, zI Z 290 (fun _ => 0)) :: (q3_59, .inr (2, [.ref q5_59])) :: (q5_59, zI Z 290 (fun _ => 0)) :: zpool np (pcs Z ad F G pn)) _ _ := hW
        have e9 : va_up (pav ad np) np (some qo_1) = pav (up ad np (a5 qo_1 q1_59 q2_59 q3_59 q5_59)) (np + 1) := pav_up ad np (a5 qo_1 q1_59 q2_59 q3_59 q5_59)
        rw [e9] at hW
        have hW := zW_perm hW (zp_new (Z := Z) [(x, .inr (4, [.ref st, .ref pa, .int (nI (np + 1)), .int dy, .int me, .int co, .int ca, .int br, .int ml, .ref sp, .ref se])), (st, .inr (2, [.ref sb])), (sb, zI Z 290 S), (pa, zQ Z 6 (pav (up ad np (a5 qo_1 q1_59 q2_59 q3_59 q5_59)) (np + 1))), (sp, .inr (3, [.ref spb, .int fp])), (spb, zI Z 6 L), (se, .inr (1, [.ref sl, .ref sk])), (sl, zI Z 29 lf), (sk, zI Z 29 tk)] qo_1 q1_59 q2_59 q3_59 q5_59 (fun _ => 0) (fun _ => 0) cv 0 0 0)
        refine lv_iload_n hx hb dX4_come_73 rfl (lv_at hl 0 rfl) ?_
        refine vx_ret ?_
        exact z_iret hx hb hr hlk hW (a5 qo_1 q1_59 q2_59 q3_59 q5_59) (⟨cdx_0 (fun h6 => h6) (fun h6 => h6 ⟨c_1, c_8⟩) (by omega), rfl⟩) (rfl) (by omega) (by omega) dX4_come_74
      · exact z_throw hx hb hfl hC 3 zfit3 mw_X4_come_12 mw_X4_come_13 mw_X4_come_14 zng3 zgd3 (is := 94) (text := "there are 6 printers") (by decide +kernel) hX hW hl.1 dX4_come_39 dX4_come_42 dX4_come_43 dX4_come_45 dX4_come_48 hno hlk (Nat.le_of_ble_eq_true rfl) (Nat.le_of_ble_eq_true rfl) (Nat.le_of_ble_eq_true rfl) (Nat.le_of_ble_eq_true rfl) () (⟨by omega, cdx_3 (fun h6 => h6) (fun h6 => h6 ⟨c_1, c_8⟩) (by omega)⟩) (rfl) (Nat.le_of_ble_eq_true rfl) (Nat.le_of_ble_eq_true rfl)
    · exact z_throw hx hb hfl hC 2 zfit2 mw_X4_come_0 mw_X4_come_1 mw_X4_come_2 zng2 zgd2 (is := 89) (text := "coins is not 0 to 5000") (by decide +kernel) hX hW hl.1 dX4_come_11 dX4_come_14 dX4_come_15 dX4_come_17 dX4_come_20 hno hlk (Nat.le_of_ble_eq_true rfl) (Nat.le_of_ble_eq_true rfl) (Nat.le_of_ble_eq_true rfl) (Nat.le_of_ble_eq_true rfl) () (⟨by omega, cdx_2 (fun h6 => h6) (fun h6 => by first | exact h6.1 c_1 | exact c_8 h6.2)⟩) (rfl) (Nat.le_of_ble_eq_true rfl) (Nat.le_of_ble_eq_true rfl)
