theorem mw_X4_melt_0 : Cond.classLink RX4 71 (zEx 2) ∈ wsX4_melt := by decide +kernel
theorem mw_X4_melt_1 : Cond.initialized (zEx 2) ∈ wsX4_melt := by decide +kernel
theorem mw_X4_melt_2 : ∀ w ∈ (vx_atS RX4 75 (zEx 2) zEs).filter goodWord, w ∈ wsX4_melt := by decide +kernel
theorem mw_X4_melt_3 : Cond.fieldLink RX4 10 "TypeFoundry" "stock" "LTypeFoundry$Sorts;" ∈ wsX4_melt := by decide +kernel
theorem mw_X4_melt_4 : ∀ w ∈ wsX40, w ∈ wsX4_melt := by decide +kernel
theorem mw_X4_melt_5 : Cond.fieldLink RX4 22 "TypeFoundry" "metal" "I" ∈ wsX4_melt := by decide +kernel
theorem mw_X4_melt_6 : Cond.fieldLink RX4 84 "TypeFoundry" "everMelted" "I" ∈ wsX4_melt := by decide +kernel
theorem mw_X4_melt_7 : Cond.classLink RX4 51 (zEx 3) ∈ wsX4_melt := by decide +kernel
theorem mw_X4_melt_8 : Cond.initialized (zEx 3) ∈ wsX4_melt := by decide +kernel
theorem mw_X4_melt_9 : ∀ w ∈ (vx_atS RX4 55 (zEx 3) zEs).filter goodWord, w ∈ wsX4_melt := by decide +kernel
abbrev wp_X4_melt (Z : zT) (x st sb pa sp spb se sl sk np : Nat) (S : Nat → Int32) (dy me co ca br ml fp : Int32) (L lf tk : Nat → Int32) (ad : Nat → Nat → Nat) (F G pn : Nat → Nat → Int32) (wv : Int32) : Unit → va_W := fun (u : Unit) => ((x, .inr (4, [.ref st, .ref pa, .int (nI np), .int dy, .int (me + mf S (sn wv) 290), .int co, .int ca, .int br, .int (ml + cf S (sn wv) 290), .ref sp, .ref se])) :: (st, .inr (2, [.ref sb])) :: (sb, zI Z 290 (df S (sn wv) 290)) :: (pa, zQ Z 6 (pav ad np)) :: (sp, .inr (3, [.ref spb, .int fp])) :: (spb, zI Z 6 L) :: (se, .inr (1, [.ref sl, .ref sk])) :: (sl, zI Z 29 lf) :: (sk, zI Z 29 tk) :: zpool np (pcs Z ad F G pn))
abbrev po_X4_melt (Z : zT) (x st sb pa sp spb se sl sk np : Nat) (S : Nat → Int32) (dy me co ca br ml fp : Int32) (L lf tk : Nat → Int32) (ad : Nat → Nat → Nat) (F G pn : Nat → Nat → Int32) (wv : Int32) : Int32 → Unit → Prop := fun (r : Int32) (u : Unit) => 0 = cdx (False) (¬ isT wv) (¬ me + mf S (sn wv) 290 ≤ nI 9999) ∧ r = cf S (sn wv) 290
abbrev wx_X4_melt (Z : zT) (x st sb pa sp spb se sl sk np : Nat) (S : Nat → Int32) (dy me co ca br ml fp : Int32) (L lf tk : Nat → Int32) (ad : Nat → Nat → Nat) (F G pn : Nat → Nat → Int32) (wv : Int32) : Unit → va_W := fun (u : Unit) => ((x, .inr (4, [.ref st, .ref pa, .int (nI np), .int dy, .int me, .int co, .int ca, .int br, .int ml, .ref sp, .ref se])) :: (st, .inr (2, [.ref sb])) :: (sb, zI Z 290 S) :: (pa, zQ Z 6 (pav ad np)) :: (sp, .inr (3, [.ref spb, .int fp])) :: (spb, zI Z 6 L) :: (se, .inr (1, [.ref sl, .ref sk])) :: (sl, zI Z 29 lf) :: (sk, zI Z 29 tk) :: zpool np (pcs Z ad F G pn))
abbrev px_X4_melt (Z : zT) (x st sb pa sp spb se sl sk np : Nat) (S : Nat → Int32) (dy me co ca br ml fp : Int32) (L lf tk : Nat → Int32) (ad : Nat → Nat → Nat) (F G pn : Nat → Nat → Int32) (wv : Int32) : Nat → Unit → Prop := fun (k : Nat) (u : Unit) => 1 ≤ k ∧ k = cdx (False) (¬ isT wv) (¬ me + mf S (sn wv) 290 ≤ nI 9999)
abbrev rm_X4_melt : Room := { frames := 6, cells := 5, slots := 30, locals := 82 }
set_option maxHeartbeats 4000000 in
set_option maxRecDepth 100000 in
theorem c_X4_melt (l : Launch) (Z : zT) (x st sb pa sp spb se sl sk np : Nat) (S : Nat → Int32) (dy me co ca br ml fp : Int32) (L lf tk : Nat → Int32) (ad : Nat → Nat → Nat) (F G pn : Nat → Nat → Int32) (wv : Int32) (hfl : l.stackTraces = false) (hnp : np ≤ 6) : zTet l yX4_melt wsX4_melt rm_X4_melt [.ref x, .int wv] Z ((x, .inr (4, [.ref st, .ref pa, .int (nI np), .int dy, .int me, .int co, .int ca, .int br, .int ml, .ref sp, .ref se])) :: (st, .inr (2, [.ref sb])) :: (sb, zI Z 290 S) :: (pa, zQ Z 6 (pav ad np)) :: (sp, .inr (3, [.ref spb, .int fp])) :: (spb, zI Z 6 L) :: (se, .inr (1, [.ref sl, .ref sk])) :: (sl, zI Z 29 lf) :: (sk, zI Z 29 tk) :: zpool np (pcs Z ad F G pn)) (zQi Z (po_X4_melt Z x st sb pa sp spb se sl sk np S dy me co ca br ml fp L lf tk ad F G pn wv) (wp_X4_melt Z x st sb pa sp spb se sl sk np S dy me co ca br ml fp L lf tk ad F G pn wv)) (zXC Z (px_X4_melt Z x st sb pa sp spb se sl sk np S dy me co ca br ml fp L lf tk ad F G pn wv) (wx_X4_melt Z x st sb pa sp spb se sl sk np S dy me co ca br ml fp L lf tk ad F G pn wv)) 5 30 := by
  refine ztstart (cc := cX4_melt) (maxL := 4) (ret := (some .int)) (by decide) rfl (Nat.le_of_ble_eq_true rfl) ?_
  intro p e s m below meth c ls A hx hb hr hC hlk hno hX hW hl
  have hml := hC.2.2.1
  have hown : s.vm.findClass RX4 = some m.cls := hC.2.2.2.1
  have hts := hC.2.2.2.2
  have hl : lv_has ls 4 [(0, .ref x), (1, .int wv)] := hl
  refine lv_iload_n hx hb dX4_melt_0 rfl (lv_at hl 1 rfl) ?_
  refine lv_iconst (v := nI 1) hx hb dX4_melt_1 (by decide) ?_
  refine lv_icmp_lt (tgt := 11) hx hb dX4_melt_2 (by decide) (fun c_2 => ?_) (fun c_2 => ?_)
  · exact z_throw hx hb hfl hC 2 zfit2 mw_X4_melt_0 mw_X4_melt_1 mw_X4_melt_2 zng2 zgd2 (is := 73) (text := "wear is not 1 to 9") (by decide +kernel) hX hW hl.1 dX4_melt_11 dX4_melt_14 dX4_melt_15 dX4_melt_17 dX4_melt_20 hno hlk (Nat.le_of_ble_eq_true rfl) (Nat.le_of_ble_eq_true rfl) (Nat.le_of_ble_eq_true rfl) (Nat.le_of_ble_eq_true rfl) () (⟨by omega, cdx_2 (fun h6 => h6) (by first | exact isT_lo c_2 | exact isT_hi c_8)⟩) (rfl) (Nat.le_of_ble_eq_true rfl) (Nat.le_of_ble_eq_true rfl)
  · refine lv_iload_n hx hb dX4_melt_5 rfl (lv_at hl 1 rfl) ?_
    refine lv_bipush (v := nI 10) hx hb dX4_melt_6 (by decide) ?_
    refine lv_icmp_lt (tgt := 21) hx hb dX4_melt_8 (by decide) (fun c_8 => ?_) (fun c_8 => ?_)
    · have hT9 := isT_of c_2 c_8
      have hT8 := hT9.1.2
      have hl : lv_has ls 4 [(0, .ref x), (1, .int (nI (sn wv)))] := by rw [← hT9.2]; exact hl
      refine lv_aload_n hx hb dX4_melt_21 rfl (lv_at hl 0 rfl) ?_
      refine z_get (C := RX4) (T := TX4) (N := 11) hx hb hts mw_X4_melt_4 hown hX hW 0 rfl rfl 0 (by decide) mw_X4_melt_3 (fun _ h9 => h9) rfl dX4_melt_22 ?_
      refine lv_iload_n hx hb dX4_melt_25 rfl (lv_at hl 1 rfl) ?_
      refine zc_i (va_runV (As := [.int (nI (sn wv))]) (rest := []) hC (c_X2_metalFrom l Z st sb S (sn wv) (by omega) _) (cwV 1 hts gX4_melt_X2_metalFrom rfl rfl rfl (by decide +kernel) ⟨Nat.le_of_ble_eq_true rfl, Nat.le_of_ble_eq_true rfl⟩) (zpreV (ci := 2) (q0 := 1) hX hW rfl rfl [1, 2] rfl (by decide)) rfl rfl hl.1 rfl (lv_room (Nat.le_of_ble_eq_true rfl)) dX4_melt_26 ⟨Nat.le_of_ble_eq_true rfl, Nat.le_of_ble_eq_true rfl⟩) hX hW [1, 2] rfl (by decide) (fun _ => rfl) (fun r_26 u_26 H locs h_26 hW => ?_)
      have hW : zW Z s A ((x, .inr (4, [.ref st, .ref pa, .int (nI np), .int dy, .int me, .int co, .int ca, .int br, .int ml, .ref sp, .ref se])) :: (st, .inr (2, [.ref sb])) :: (sb, zI Z 290 S) :: (pa, zQ Z 6 (pav ad np)) :: (sp, .inr (3, [.ref spb, .int fp])) :: (spb, zI Z 6 L) :: (se, .inr (1, [.ref sl, .ref sk])) :: (sl, zI Z 29 lf) :: (sk, zI Z 29 tk) :: zpool np (pcs Z ad F G pn)) _ _ := hW
      subst h_26
      refine lv_istore_n (lv' := [(2, .int (mf S (sn wv) 290)), (0, .ref x), (1, .int (nI (sn wv)))]) hx hb dX4_melt_29 rfl hl (by decide) rfl (fun ls hl => ?_)
      refine lv_aload_n hx hb dX4_melt_30 rfl (lv_at hl 1 rfl) ?_
      refine z_get (C := RX4) (T := TX4) (N := 11) hx hb hts mw_X4_melt_4 hown hX hW 0 rfl rfl 4 (by decide) mw_X4_melt_5 (fun _ h9 => h9) rfl dX4_melt_31 ?_
      refine lv_iload_n hx hb dX4_melt_34 rfl (lv_at hl 0 rfl) ?_
      refine lv_iadd hx hb dX4_melt_35 ?_
      refine lv_sipush (v := nI 9999) hx hb dX4_melt_36 (by decide) ?_
      refine lv_icmp_le (tgt := 52) hx hb dX4_melt_39 (by decide) (fun c_39 => ?_) (fun c_39 => ?_)
      · refine lv_aload_n hx hb dX4_melt_52 rfl (lv_at hl 1 rfl) ?_
        refine z_get (C := RX4) (T := TX4) (N := 11) hx hb hts mw_X4_melt_4 hown hX hW 0 rfl rfl 0 (by decide) mw_X4_melt_3 (fun _ h9 => h9) rfl dX4_melt_53 ?_
        refine lv_iload_n hx hb dX4_melt_56 rfl (lv_at hl 2 rfl) ?_
        refine zc_i (va_runV (As := [.int (nI (sn wv))]) (rest := []) hC (c_X2_dropFrom l Z st sb S (sn wv) (by omega) _) (cwV 1 hts gX4_melt_X2_dropFrom rfl rfl rfl (by decide +kernel) ⟨Nat.le_of_ble_eq_true rfl, Nat.le_of_ble_eq_true rfl⟩) (zpreV (ci := 2) (q0 := 1) hX hW rfl rfl [1, 2] rfl (by decide)) rfl rfl hl.1 rfl (lv_room (Nat.le_of_ble_eq_true rfl)) dX4_melt_57 ⟨Nat.le_of_ble_eq_true rfl, Nat.le_of_ble_eq_true rfl⟩) hX hW [1, 2] rfl (by decide) (fun _ => rfl) (fun r_57 u_57 H locs h_57 hW => ?_)
        have hW : zW Z s A ((x, .inr (4, [.ref st, .ref pa, .int (nI np), .int dy, .int me, .int co, .int ca, .int br, .int ml, .ref sp, .ref se])) :: (st, .inr (2, [.ref sb])) :: (sb, zI Z 290 (df S (sn wv) 290)) :: (pa, zQ Z 6 (pav ad np)) :: (sp, .inr (3, [.ref spb, .int fp])) :: (spb, zI Z 6 L) :: (se, .inr (1, [.ref sl, .ref sk])) :: (sl, zI Z 29 lf) :: (sk, zI Z 29 tk) :: zpool np (pcs Z ad F G pn)) _ _ := hW
        subst h_57
        refine lv_istore_n (lv' := [(3, .int (cf S (sn wv) 290)), (2, .int (mf S (sn wv) 290)), (0, .ref x), (1, .int (nI (sn wv)))]) hx hb dX4_melt_60 rfl hl (by decide) rfl (fun ls hl => ?_)
        refine lv_aload_n hx hb dX4_melt_61 rfl (lv_at hl 2 rfl) ?_
        refine lv_dup hx hb dX4_melt_62 rfl ?_
        refine z_get (C := RX4) (T := TX4) (N := 11) hx hb hts mw_X4_melt_4 hown hX hW 0 rfl rfl 4 (by decide) mw_X4_melt_5 (fun _ h9 => h9) rfl dX4_melt_63 ?_
        refine lv_iload_n hx hb dX4_melt_66 rfl (lv_at hl 1 rfl) ?_
        refine lv_iadd hx hb dX4_melt_67 ?_
        refine z_put (C := RX4) (T := TX4) (N := 11) (v := .int (me + (mf S (sn wv) 290))) (ty := .int) hx hb hts mw_X4_melt_4 tyX4 tyX4_ok nmX4 hown hX hW 0 rfl rfl 4 (by decide) mw_X4_melt_5 (fun _ h9 => h9) rfl (by decide +kernel) rfl rfl (Nat.le_of_ble_eq_true rfl) dX4_melt_68 (fun H locs hW => ?_)
        have hW : zW Z s A ((x, .inr (4, [.ref st, .ref pa, .int (nI np), .int dy, .int (me + (mf S (sn wv) 290)), .int co, .int ca, .int br, .int ml, .ref sp, .ref se])) :: (st, .inr (2, [.ref sb])) :: (sb, zI Z 290 (df S (sn wv) 290)) :: (pa, zQ Z 6 (pav ad np)) :: (sp, .inr (3, [.ref spb, .int fp])) :: (spb, zI Z 6 L) :: (se, .inr (1, [.ref sl, .ref sk])) :: (sl, zI Z 29 lf) :: (sk, zI Z 29 tk) :: zpool np (pcs Z ad F G pn)) _ _ := hW
        refine lv_aload_n hx hb dX4_melt_71 rfl (lv_at hl 2 rfl) ?_
        refine lv_dup hx hb dX4_melt_72 rfl ?_
        refine z_get (C := RX4) (T := TX4) (N := 11) hx hb hts mw_X4_melt_4 hown hX hW 0 rfl rfl 8 (by decide) mw_X4_melt_6 (fun _ h9 => h9) rfl dX4_melt_73 ?_
        refine lv_iload_n hx hb dX4_melt_76 rfl (lv_at hl 0 rfl) ?_
        refine lv_iadd hx hb dX4_melt_77 ?_
        refine z_put (C := RX4) (T := TX4) (N := 11) (v := .int (ml + (cf S (sn wv) 290))) (ty := .int) hx hb hts mw_X4_melt_4 tyX4 tyX4_ok nmX4 hown hX hW 0 rfl rfl 8 (by decide) mw_X4_melt_6 (fun _ h9 => h9) rfl (by decide +kernel) rfl rfl (Nat.le_of_ble_eq_true rfl) dX4_melt_78 (fun H locs hW => ?_)
        have hW : zW Z s A ((x, .inr (4, [.ref st, .ref pa, .int (nI np), .int dy, .int (me + (mf S (sn wv) 290)), .int co, .int ca, .int br, .int (ml + (cf S (sn wv) 290)), .ref sp, .ref se])) :: (st, .inr (2, [.ref sb])) :: (sb, zI Z 290 (df S (sn wv) 290)) :: (pa, zQ Z 6 (pav ad np)) :: (sp, .inr (3, [.ref spb, .int fp])) :: (spb, zI Z 6 L) :: (se, .inr (1, [.ref sl, .ref sk])) :: (sl, zI Z 29 lf) :: (sk, zI Z 29 tk) :: zpool np (pcs Z ad F G pn)) _ _ := hW
        refine lv_iload_n hx hb dX4_melt_81 rfl (lv_at hl 0 rfl) ?_
        refine vx_ret ?_
        exact z_iret hx hb hr hlk hW () (⟨cdx_0 (fun h6 => h6) (fun h6 => h6 hT9) (fun h6 => h6 c_39), rfl⟩) (rfl) (by omega) (by omega) dX4_melt_82
      · exact z_throw hx hb hfl hC 3 zfit3 mw_X4_melt_7 mw_X4_melt_8 mw_X4_melt_9 zng3 zgd3 (is := 79) (text := "there would be more than 9999 of metal") (by decide +kernel) hX hW hl.1 dX4_melt_42 dX4_melt_45 dX4_melt_46 dX4_melt_48 dX4_melt_51 hno hlk (Nat.le_of_ble_eq_true rfl) (Nat.le_of_ble_eq_true rfl) (Nat.le_of_ble_eq_true rfl) (Nat.le_of_ble_eq_true rfl) () (⟨by omega, cdx_3 (fun h6 => h6) (fun h6 => h6 hT9) c_39⟩) (rfl) (Nat.le_of_ble_eq_true rfl) (Nat.le_of_ble_eq_true rfl)
    · exact z_throw hx hb hfl hC 2 zfit2 mw_X4_melt_0 mw_X4_melt_1 mw_X4_melt_2 zng2 zgd2 (is := 73) (text := "wear is not 1 to 9") (by decide +kernel) hX hW hl.1 dX4_melt_11 dX4_melt_14 dX4_melt_15 dX4_melt_17 dX4_melt_20 hno hlk (Nat.le_of_ble_eq_true rfl) (Nat.le_of_ble_eq_true rfl) (Nat.le_of_ble_eq_true rfl) (Nat.le_of_ble_eq_true rfl) () (⟨by omega, cdx_2 (fun h6 => h6) (by first | exact isT_lo c_2 | exact isT_hi c_8)⟩) (rfl) (Nat.le_of_ble_eq_true rfl) (Nat.le_of_ble_eq_true rfl)
