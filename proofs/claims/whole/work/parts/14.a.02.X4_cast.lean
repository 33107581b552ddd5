theorem mw_X4_cast_0 : Cond.fieldLink RX4 22 "TypeFoundry" "metal" "I" ∈ wsX4_cast := by decide +kernel
theorem mw_X4_cast_1 : ∀ w ∈ wsX40, w ∈ wsX4_cast := by decide +kernel
theorem mw_X4_cast_2 : Cond.fieldLink RX4 10 "TypeFoundry" "stock" "LTypeFoundry$Sorts;" ∈ wsX4_cast := by decide +kernel
theorem mw_X4_cast_3 : Cond.fieldLink RX4 68 "TypeFoundry" "everCast" "I" ∈ wsX4_cast := by decide +kernel
theorem mw_X4_cast_4 : Cond.classLink RX4 51 (zEx 3) ∈ wsX4_cast := by decide +kernel
theorem mw_X4_cast_5 : Cond.initialized (zEx 3) ∈ wsX4_cast := by decide +kernel
theorem mw_X4_cast_6 : ∀ w ∈ (vx_atS RX4 55 (zEx 3) zEs).filter goodWord, w ∈ wsX4_cast := by decide +kernel
abbrev wp_X4_cast (Z : zT) (x st sb pa sp spb se sl sk np : Nat) (S : Nat → Int32) (dy me co ca br ml fp : Int32) (L lf tk : Nat → Int32) (ad : Nat → Nat → Nat) (F G pn : Nat → Nat → Int32) (sv mv : Int32) : Unit → va_W := fun (u : Unit) => ((x, .inr (4, [.ref st, .ref pa, .int (nI np), .int dy, .int (me - mv * pr3 (sn sv)), .int co, .int (ca + mv), .int br, .int ml, .ref sp, .ref se])) :: (st, .inr (2, [.ref sb])) :: (sb, zI Z 290 (upd S (sn sv * 10 + 0) (S (sn sv * 10 + 0) + mv))) :: (pa, zQ Z 6 (pav ad np)) :: (sp, .inr (3, [.ref spb, .int fp])) :: (spb, zI Z 6 L) :: (se, .inr (1, [.ref sl, .ref sk])) :: (sl, zI Z 29 lf) :: (sk, zI Z 29 tk) :: zpool np (pcs Z ad F G pn))
abbrev po_X4_cast (Z : zT) (x st sb pa sp spb se sl sk np : Nat) (S : Nat → Int32) (dy me co ca br ml fp : Int32) (L lf tk : Nat → Int32) (ad : Nat → Nat → Nat) (F G pn : Nat → Nat → Int32) (sv mv : Int32) : Int32 → Unit → Prop := fun (r : Int32) (u : Unit) => 0 = cdx (¬ isS sv) (¬ isM mv) (¬ mv * pr3 (sn sv) ≤ me ∨ ¬ bx_sum (sg S (sn sv)) 10 + mv ≤ nI 999) ∧ r = me - mv * pr3 (sn sv)
abbrev wx_X4_cast (Z : zT) (x st sb pa sp spb se sl sk np : Nat) (S : Nat → Int32) (dy me co ca br ml fp : Int32) (L lf tk : Nat → Int32) (ad : Nat → Nat → Nat) (F G pn : Nat → Nat → Int32) (sv mv : Int32) : Unit → va_W := fun (u : Unit) => ((x, .inr (4, [.ref st, .ref pa, .int (nI np), .int dy, .int me, .int co, .int ca, .int br, .int ml, .ref sp, .ref se])) :: (st, .inr (2, [.ref sb])) :: (sb, zI Z 290 S) :: (pa, zQ Z 6 (pav ad np)) :: (sp, .inr (3, [.ref spb, .int fp])) :: (spb, zI Z 6 L) :: (se, .inr (1, [.ref sl, .ref sk])) :: (sl, zI Z 29 lf) :: (sk, zI Z 29 tk) :: zpool np (pcs Z ad F G pn))
abbrev px_X4_cast (Z : zT) (x st sb pa sp spb se sl sk np : Nat) (S : Nat → Int32) (dy me co ca br ml fp : Int32) (L lf tk : Nat → Int32) (ad : Nat → Nat → Nat) (F G pn : Nat → Nat → Int32) (sv mv : Int32) : Nat → Unit → Prop := fun (k : Nat) (u : Unit) => 1 ≤ k ∧ k = cdx (¬ isS sv) (¬ isM mv) (¬ mv * pr3 (sn sv) ≤ me ∨ ¬ bx_sum (sg S (sn sv)) 10 + mv ≤ nI 999)
abbrev rm_X4_cast : Room := { frames := 7, cells := 5, slots := 30, locals := 102 }
set_option maxHeartbeats 4000000 in
set_option maxRecDepth 100000 in
theorem c_X4_cast (l : Launch) (Z : zT) (x st sb pa sp spb se sl sk np : Nat) (S : Nat → Int32) (dy me co ca br ml fp : Int32) (L lf tk : Nat → Int32) (ad : Nat → Nat → Nat) (F G pn : Nat → Nat → Int32) (sv mv : Int32) (hfl : l.stackTraces = false) (hnp : np ≤ 6) : zTet l yX4_cast wsX4_cast rm_X4_cast [.ref x, .int sv, .int mv] Z ((x, .inr (4, [.ref st, .ref pa, .int (nI np), .int dy, .int me, .int co, .int ca, .int br, .int ml, .ref sp, .ref se])) :: (st, .inr (2, [.ref sb])) :: (sb, zI Z 290 S) :: (pa, zQ Z 6 (pav ad np)) :: (sp, .inr (3, [.ref spb, .int fp])) :: (spb, zI Z 6 L) :: (se, .inr (1, [.ref sl, .ref sk])) :: (sl, zI Z 29 lf) :: (sk, zI Z 29 tk) :: zpool np (pcs Z ad F G pn)) (zQi Z (po_X4_cast Z x st sb pa sp spb se sl sk np S dy me co ca br ml fp L lf tk ad F G pn sv mv) (wp_X4_cast Z x st sb pa sp spb se sl sk np S dy me co ca br ml fp L lf tk ad F G pn sv mv)) (zXC Z (px_X4_cast Z x st sb pa sp spb se sl sk np S dy me co ca br ml fp L lf tk ad F G pn sv mv) (wx_X4_cast Z x st sb pa sp spb se sl sk np S dy me co ca br ml fp L lf tk ad F G pn sv mv)) 5 30 := by
  refine ztstart (cc := cX4_cast) (maxL := 4) (ret := (some .int)) (by decide) rfl (Nat.le_of_ble_eq_true rfl) ?_
  intro p e s m below meth c ls A hx hb hr hC hlk hno hX hW hl
  have hml := hC.2.2.1
  have hown : s.vm.findClass RX4 = some m.cls := hC.2.2.2.1
  have hts := hC.2.2.2.2
  have hl : lv_has ls 4 [(0, .ref x), (1, .int sv), (2, .int mv)] := hl
  refine lv_iload_n hx hb dX4_cast_0 rfl (lv_at hl 1 rfl) ?_
  refine zt_vP (vx_runS (As := [.int sv]) (rest := []) hC (c_X4_needSign l Z sv hfl  _) (va_cwS 1 hts gX4_cast_X4_needSign rfl rfl rfl (by decide +kernel) ⟨Nat.le_of_ble_eq_true rfl, Nat.le_of_ble_eq_true rfl⟩) (zpreS hX hW [] rfl (by decide)) rfl rfl hl.1 rfl (lv_room (Nat.le_of_ble_eq_true rfl)) dX4_cast_1 ⟨Nat.le_of_ble_eq_true rfl, Nat.le_of_ble_eq_true rfl⟩) hX hW [] rfl (by decide) (fun _ => rfl) hno hlk (fun _ => rfl) (fun k9 u9 h9 => by obtain ⟨rfl, h8⟩ := h9; exact ⟨(), ⟨by omega, cdx_1 h8⟩, List.Perm.refl _⟩) (Nat.le_of_ble_eq_true rfl) (Nat.le_of_ble_eq_true rfl) (fun u_1 H locs h_1 hW => ?_)
  have hW : zW Z s A ((x, .inr (4, [.ref st, .ref pa, .int (nI np), .int dy, .int me, .int co, .int ca, .int br, .int ml, .ref sp, .ref se])) :: (st, .inr (2, [.ref sb])) :: (sb, zI Z 290 S) :: (pa, zQ Z 6 (pav ad np)) :: (sp, .inr (3, [.ref spb, .int fp])) :: (spb, zI Z 6 L) :: (se, .inr (1, [.ref sl, .ref sk])) :: (sl, zI Z 29 lf) :: (sk, zI Z 29 tk) :: zpool np (pcs Z ad F G pn)) _ _ := hW
  have hS9 : isS sv := h_1
  have hl : lv_has ls 4 [(0, .ref x), (1, .int (nI (sn sv))), (2, .int mv)] := by rw [← hS9.2]; exact hl
  refine lv_iload_n hx hb dX4_cast_4 rfl (lv_at hl 2 rfl) ?_
  refine zt_vP (vx_runS (As := [.int mv]) (rest := []) hC (c_X4_needMany l Z mv hfl  _) (va_cwS 1 hts gX4_cast_X4_needMany rfl rfl rfl (by decide +kernel) ⟨Nat.le_of_ble_eq_true rfl, Nat.le_of_ble_eq_true rfl⟩) (zpreS hX hW [] rfl (by decide)) rfl rfl hl.1 rfl (lv_room (Nat.le_of_ble_eq_true rfl)) dX4_cast_5 ⟨Nat.le_of_ble_eq_true rfl, Nat.le_of_ble_eq_true rfl⟩) hX hW [] rfl (by decide) (fun _ => rfl) hno hlk (fun _ => rfl) (fun k9 u9 h9 => by obtain ⟨rfl, h8⟩ := h9; exact ⟨(), ⟨by omega, cdx_2 (fun h6 => h6 hS9) h8⟩, List.Perm.refl _⟩) (Nat.le_of_ble_eq_true rfl) (Nat.le_of_ble_eq_true rfl) (fun u_5 H locs h_5 hW => ?_)
  have hW : zW Z s A ((x, .inr (4, [.ref st, .ref pa, .int (nI np), .int dy, .int me, .int co, .int ca, .int br, .int ml, .ref sp, .ref se])) :: (st, .inr (2, [.ref sb])) :: (sb, zI Z 290 S) :: (pa, zQ Z 6 (pav ad np)) :: (sp, .inr (3, [.ref spb, .int fp])) :: (spb, zI Z 6 L) :: (se, .inr (1, [.ref sl, .ref sk])) :: (sl, zI Z 29 lf) :: (sk, zI Z 29 tk) :: zpool np (pcs Z ad F G pn)) _ _ := hW
  have hM9 : isM mv := h_5
  refine lv_iload_n hx hb dX4_cast_8 rfl (lv_at hl 2 rfl) ?_
  refine lv_iload_n hx hb dX4_cast_9 rfl (lv_at hl 1 rfl) ?_
  refine zc_i (va_runS (As := [.int (nI (sn sv))]) (rest := [.int mv]) hC (c_X4_isLigature l Z (sn sv) hS9.1 _) (va_cwS 1 hts gX4_cast_X4_isLigature rfl rfl rfl (by decide +kernel) ⟨Nat.le_of_ble_eq_true rfl, Nat.le_of_ble_eq_true rfl⟩) (zpreS hX hW [] rfl (by decide)) rfl rfl hl.1 rfl (lv_room (Nat.le_of_ble_eq_true rfl)) dX4_cast_10 ⟨Nat.le_of_ble_eq_true rfl, Nat.le_of_ble_eq_true rfl⟩) hX hW [] rfl (by decide) (fun _ => rfl) (fun r_10 u_10 H locs h_10 hW => ?_)
  have hW : zW Z s A ((x, .inr (4, [.ref st, .ref pa, .int (nI np), .int dy, .int me, .int co, .int ca, .int br, .int ml, .ref sp, .ref se])) :: (st, .inr (2, [.ref sb])) :: (sb, zI Z 290 S) :: (pa, zQ Z 6 (pav ad np)) :: (sp, .inr (3, [.ref spb, .int fp])) :: (spb, zI Z 6 L) :: (se, .inr (1, [.ref sl, .ref sk])) :: (sl, zI Z 29 lf) :: (sk, zI Z 29 tk) :: zpool np (pcs Z ad F G pn)) _ _ := hW
  subst h_10
  refine lv_if_eq (tgt := 20) hx hb dX4_cast_13 (by decide) (fun c_13 => ?_) (fun c_13 => ?_)
  · have hlg := zlig0 c_13
    refine lv_iconst (v := nI 2) hx hb dX4_cast_20 (by decide) ?_
    refine lv_imul hx hb dX4_cast_21 ?_
    refine zw_topi (y := (mv * pr3 (sn sv))) (by first | rw [pr3_t hlg] | rw [pr3_f hlg]) ?_
    refine lv_istore_n (lv' := [(3, .int (mv * pr3 (sn sv))), (0, .ref x), (1, .int (nI (sn sv))), (2, .int mv)]) hx hb dX4_cast_22 rfl hl (by decide) rfl (fun ls hl => ?_)
    refine lv_iload_n hx hb dX4_cast_23 rfl (lv_at hl 0 rfl) ?_
    refine lv_aload_n hx hb dX4_cast_24 rfl (lv_at hl 1 rfl) ?_
    refine z_get (C := RX4) (T := TX4) (N := 11) hx hb hts mw_X4_cast_1 hown hX hW 0 rfl rfl 4 (by decide) mw_X4_cast_0 (fun _ h9 => h9) rfl dX4_cast_25 ?_
    refine lv_icmp_le (tgt := 41) hx hb dX4_cast_28 (by decide) (fun c_28 => ?_) (fun c_28 => ?_)
    · refine lv_aload_n hx hb dX4_cast_41 rfl (lv_at hl 1 rfl) ?_
      refine z_get (C := RX4) (T := TX4) (N := 11) hx hb hts mw_X4_cast_1 hown hX hW 0 rfl rfl 0 (by decide) mw_X4_cast_2 (fun _ h9 => h9) rfl dX4_cast_42 ?_
      refine lv_iload_n hx hb dX4_cast_45 rfl (lv_at hl 2 rfl) ?_
      refine zc_i (va_runV (As := [.int (nI (sn sv))]) (rest := []) hC (c_X2_ofSign l Z st sb S (sn sv) hS9.1 _) (cwV 1 hts gX4_cast_X2_ofSign rfl rfl rfl (by decide +kernel) ⟨Nat.le_of_ble_eq_true rfl, Nat.le_of_ble_eq_true rfl⟩) (zpreV (ci := 2) (q0 := 1) hX hW rfl rfl [1, 2] rfl (by decide)) rfl rfl hl.1 rfl (lv_room (Nat.le_of_ble_eq_true rfl)) dX4_cast_46 ⟨Nat.le_of_ble_eq_true rfl, Nat.le_of_ble_eq_true rfl⟩) hX hW [1, 2] rfl (by decide) (fun _ => rfl) (fun r_46 u_46 H locs h_46 hW => ?_)
      have hW : zW Z s A ((x, .inr (4, [.ref st, .ref pa, .int (nI np), .int dy, .int me, .int co, .int ca, .int br, .int ml, .ref sp, .ref se])) :: (st, .inr (2, [.ref sb])) :: (sb, zI Z 290 S) :: (pa, zQ Z 6 (pav ad np)) :: (sp, .inr (3, [.ref spb, .int fp])) :: (spb, zI Z 6 L) :: (se, .inr (1, [.ref sl, .ref sk])) :: (sl, zI Z 29 lf) :: (sk, zI Z 29 tk) :: zpool np (pcs Z ad F G pn)) _ _ := hW
      subst h_46
      refine lv_iload_n hx hb dX4_cast_49 rfl (lv_at hl 3 rfl) ?_
      refine lv_iadd hx hb dX4_cast_50 ?_
      refine lv_sipush (v := nI 999) hx hb dX4_cast_51 (by decide) ?_
      refine lv_icmp_le (tgt := 67) hx hb dX4_cast_54 (by decide) (fun c_54 => ?_) (fun c_54 => ?_)
      · refine lv_aload_n hx hb dX4_cast_67 rfl (lv_at hl 1 rfl) ?_
        refine lv_dup hx hb dX4_cast_68 rfl ?_
        refine z_get (C := RX4) (T := TX4) (N := 11) hx hb hts mw_X4_cast_1 hown hX hW 0 rfl rfl 4 (by decide) mw_X4_cast_0 (fun _ h9 => h9) rfl dX4_cast_69 ?_
        refine lv_iload_n hx hb dX4_cast_72 rfl (lv_at hl 0 rfl) ?_
        refine lv_isub hx hb dX4_cast_73 ?_
        refine z_put (C := RX4) (T := TX4) (N := 11) (v := .int (me - (mv * pr3 (sn sv)))) (ty := .int) hx hb hts mw_X4_cast_1 tyX4 tyX4_ok nmX4 hown hX hW 0 rfl rfl 4 (by decide) mw_X4_cast_0 (fun _ h9 => h9) rfl (by decide +kernel) rfl rfl (Nat.le_of_ble_eq_true rfl) dX4_cast_74 (fun H locs hW => ?_)
        have hW : zW Z s A ((x, .inr (4, [.ref st, .ref pa, .int (nI np), .int dy, .int (me - (mv * pr3 (sn sv))), .int co, .int ca, .int br, .int ml, .ref sp, .ref se])) :: (st, .inr (2, [.ref sb])) :: (sb, zI Z 290 S) :: (pa, zQ Z 6 (pav ad np)) :: (sp, .inr (3, [.ref spb, .int fp])) :: (spb, zI Z 6 L) :: (se, .inr (1, [.ref sl, .ref sk])) :: (sl, zI Z 29 lf) :: (sk, zI Z 29 tk) :: zpool np (pcs Z ad F G pn)) _ _ := hW
        refine lv_aload_n hx hb dX4_cast_77 rfl (lv_at hl 1 rfl) ?_
        refine z_get (C := RX4) (T := TX4) (N := 11) hx hb hts mw_X4_cast_1 hown hX hW 0 rfl rfl 0 (by decide) mw_X4_cast_2 (fun _ h9 => h9) rfl dX4_cast_78 ?_
        refine lv_iload_n hx hb dX4_cast_81 rfl (lv_at hl 2 rfl) ?_
        refine lv_iconst (v := nI 0) hx hb dX4_cast_82 (by decide) ?_
        refine lv_iload_n hx hb dX4_cast_83 rfl (lv_at hl 3 rfl) ?_
        refine zc_v (va_runV (As := [.int (nI (sn sv)), .int (nI 0), .int mv]) (rest := []) hC (c_X2_change l Z st sb S (sn sv) 0 mv hS9.1 (by omega) _) (cwV 3 hts gX4_cast_X2_change rfl rfl rfl (by decide +kernel) ⟨Nat.le_of_ble_eq_true rfl, Nat.le_of_ble_eq_true rfl⟩) (zpreV (ci := 2) (q0 := 1) hX hW rfl rfl [1, 2] rfl (by decide)) rfl rfl hl.1 rfl (lv_room (Nat.le_of_ble_eq_true rfl)) dX4_cast_84 ⟨Nat.le_of_ble_eq_true rfl, Nat.le_of_ble_eq_true rfl⟩) hX hW [1, 2] rfl (by decide) (fun _ => rfl) (fun u_84 H locs h_84 hW => ?_)
        have hW : zW Z s A ((x, .inr (4, [.ref st, .ref pa, .int (nI np), .int dy, .int (me - (mv * pr3 (sn sv))), .int co, .int ca, .int br, .int ml, .ref sp, .ref se])) :: (st, .inr (2, [.ref sb])) :: (sb, zI Z 290 (upd S ((sn sv) * 10 + 0) (S ((sn sv) * 10 + 0) + mv))) :: (pa, zQ Z 6 (pav ad np)) :: (sp, .inr (3, [.ref spb, .int fp])) :: (spb, zI Z 6 L) :: (se, .inr (1, [.ref sl, .ref sk])) :: (sl, zI Z 29 lf) :: (sk, zI Z 29 tk) :: zpool np (pcs Z ad F G pn)) _ _ := hW
        refine lv_aload_n hx hb dX4_cast_87 rfl (lv_at hl 1 rfl) ?_
        refine lv_dup hx hb dX4_cast_88 rfl ?_
        refine z_get (C := RX4) (T := TX4) (N := 11) hx hb hts mw_X4_cast_1 hown hX hW 0 rfl rfl 6 (by decide) mw_X4_cast_3 (fun _ h9 => h9) rfl dX4_cast_89 ?_
        refine lv_iload_n hx hb dX4_cast_92 rfl (lv_at hl 3 rfl) ?_
        refine lv_iadd hx hb dX4_cast_93 ?_
        refine z_put (C := RX4) (T := TX4) (N := 11) (v := .int (ca + mv)) (ty := .int) hx hb hts mw_X4_cast_1 tyX4 tyX4_ok nmX4 hown hX hW 0 rfl rfl 6 (by decide) mw_X4_cast_3 (fun _ h9 => h9) rfl (by decide +kernel) rfl rfl (Nat.le_of_ble_eq_true rfl) dX4_cast_94 (fun H locs hW => ?_)
        have hW : zW Z s A ((x, .inr (4, [.ref st, .ref pa, .int (nI np), .int dy, .int (me - (mv * pr3 (sn sv))), .int co, .int (ca + mv), .int br, .int ml, .ref sp, .ref se])) :: (st, .inr (2, [.ref sb])) :: (sb, zI Z 290 (upd S ((sn sv) * 10 + 0) (S ((sn sv) * 10 + 0) + mv))) :: (pa, zQ Z 6 (pav ad np)) :: (sp, .inr (3, [.ref spb, .int fp])) :: (spb, zI Z 6 L) :: (se, .inr (1, [.ref sl, .ref sk])) :: (sl, zI Z 29 lf) :: (sk, zI Z 29 tk) :: zpool np (pcs Z ad F G pn)) _ _ := hW
        refine lv_aload_n hx hb dX4_cast_97 rfl (lv_at hl 1 rfl) ?_
        refine z_get (C := RX4) (T := TX4) (N := 11) hx hb hts mw_X4_cast_1 hown hX hW 0 rfl rfl 4 (by decide) mw_X4_cast_0 (fun _ h9 => h9) rfl dX4_cast_98 ?_
        refine vx_ret ?_
        exact z_iret hx hb hr hlk hW () (⟨cdx_0 (fun h6 => h6 hS9) (fun h6 => h6 hM9) (fun h6 => h6.elim (fun h7 => h7 c_28) (fun h7 => h7 c_54)), rfl⟩) (rfl) (by omega) (by omega) dX4_cast_101
      · exact z_throw hx hb hfl hC 3 zfit3 mw_X4_cast_4 mw_X4_cast_5 mw_X4_cast_6 zng3 zgd3 (is := 62) (text := "there would be more than 999 sorts of the sign in the stock") (by decide +kernel) hX hW hl.1 dX4_cast_57 dX4_cast_60 dX4_cast_61 dX4_cast_63 dX4_cast_66 hno hlk (Nat.le_of_ble_eq_true rfl) (Nat.le_of_ble_eq_true rfl) (Nat.le_of_ble_eq_true rfl) (Nat.le_of_ble_eq_true rfl) () (⟨by omega, cdx_3 (fun h6 => h6 hS9) (fun h6 => h6 hM9) (Or.inr c_54)⟩) (rfl) (Nat.le_of_ble_eq_true rfl) (Nat.le_of_ble_eq_true rfl)
    · exact z_throw hx hb hfl hC 3 zfit3 mw_X4_cast_4 mw_X4_cast_5 mw_X4_cast_6 zng3 zgd3 (is := 53) (text := "there is not so much metal") (by decide +kernel) hX hW hl.1 dX4_cast_31 dX4_cast_34 dX4_cast_35 dX4_cast_37 dX4_cast_40 hno hlk (Nat.le_of_ble_eq_true rfl) (Nat.le_of_ble_eq_true rfl) (Nat.le_of_ble_eq_true rfl) (Nat.le_of_ble_eq_true rfl) () (⟨by omega, cdx_3 (fun h6 => h6 hS9) (fun h6 => h6 hM9) (Or.inl c_28)⟩) (rfl) (Nat.le_of_ble_eq_true rfl) (Nat.le_of_ble_eq_true rfl)
  · have hlg := zlig1 c_13
    refine lv_iconst (v := nI 3) hx hb dX4_cast_16 (by decide) ?_
    refine lv_goto (tgt := 21) hx hb dX4_cast_17 (by decide) ?_
    refine lv_imul hx hb dX4_cast_21 ?_
    refine zw_topi (y := (mv * pr3 (sn sv))) (by first | rw [pr3_t hlg] | rw [pr3_f hlg]) ?_
    refine lv_istore_n (lv' := [(3, .int (mv * pr3 (sn sv))), (0, .ref x), (1, .int (nI (sn sv))), (2, .int mv)]) hx hb dX4_cast_22 rfl hl (by decide) rfl (fun ls hl => ?_)
    refine lv_iload_n hx hb dX4_cast_23 rfl (lv_at hl 0 rfl) ?_
    refine lv_aload_n hx hb dX4_cast_24 rfl (lv_at hl 1 rfl) ?_
    refine z_get (C := RX4) (T := TX4) (N := 11) hx hb hts mw_X4_cast_1 hown hX hW 0 rfl rfl 4 (by decide) mw_X4_cast_0 (fun _ h9 => h9) rfl dX4_cast_25 ?_
    refine lv_icmp_le (tgt := 41) hx hb dX4_cast_28 (by decide) (fun c_28 => ?_) (fun c_28 => ?_)
    · refine lv_aload_n hx hb dX4_cast_41 rfl (lv_at hl 1 rfl) ?_
      refine z_get (C := RX4) (T := TX4) (N := 11) hx hb hts mw_X4_cast_1 hown hX hW 0 rfl rfl 0 (by decide) mw_X4_cast_2 (fun _ h9 => h9) rfl dX4_cast_42 ?_
      refine lv_iload_n hx hb dX4_cast_45 rfl (lv_at hl 2 rfl) ?_
      refine zc_i (va_runV (As := [.int (nI (sn sv))]) (rest := []) hC (c_X2_ofSign l Z st sb S (sn sv) hS9.1 _) (cwV 1 hts gX4_cast_X2_ofSign rfl rfl rfl (by decide +kernel) ⟨Nat.le_of_ble_eq_true rfl, Nat.le_of_ble_eq_true rfl⟩) (zpreV (ci := 2) (q0 := 1) hX hW rfl rfl [1, 2] rfl (by decide)) rfl rfl hl.1 rfl (lv_room (Nat.le_of_ble_eq_true rfl)) dX4_cast_46 ⟨Nat.le_of_ble_eq_true rfl, Nat.le_of_ble_eq_true rfl⟩) hX hW [1, 2] rfl (by decide) (fun _ => rfl) (fun r_46 u_46 H locs h_46 hW => ?_)
      have hW : zW Z s A ((x, .inr (4, [.ref st, .ref pa, .int (nI np), .int dy, .int me, .int co, .int ca, .int br, .int ml, .ref sp, .ref se])) :: (st, .inr (2, [.ref sb])) :: (sb, zI Z 290 S) :: (pa, zQ Z 6 (pav ad np)) :: (sp, .inr (3, [.ref spb, .int fp])) :: (spb, zI Z 6 L) :: (se, .inr (1, [.ref sl, .ref sk])) :: (sl, zI Z 29 lf) :: (sk, zI Z 29 tk) :: zpool np (pcs Z ad F G pn)) _ _ := hW
      subst h_46
      refine lv_iload_n hx hb dX4_cast_49 rfl (lv_at hl 3 rfl) ?_
      refine lv_iadd hx hb dX4_cast_50 ?_
      refine lv_sipush (v := nI 999) hx hb dX4_cast_51 (by decide) ?_
      refine lv_icmp_le (tgt := 67) hx hb dX4_cast_54 (by decide) (fun c_54 => ?_) (fun c_54 => ?_)
      · refine lv_aload_n hx hb dX4_cast_67 rfl (lv_at hl 1 rfl) ?_
        refine lv_dup hx hb dX4_cast_68 rfl ?_
        refine z_get (C := RX4) (T := TX4) (N := 11) hx hb hts mw_X4_cast_1 hown hX hW 0 rfl rfl 4 (by decide) mw_X4_cast_0 (fun _ h9 => h9) rfl dX4_cast_69 ?_
        refine lv_iload_n hx hb dX4_cast_72 rfl (lv_at hl 0 rfl) ?_
        refine lv_isub hx hb dX4_cast_73 ?_
        refine z_put (C := RX4) (T := TX4) (N := 11) (v := .int (me - (mv * pr3 (sn sv)))) (ty := .int) hx hb hts mw_X4_cast_1 tyX4 tyX4_ok nmX4 hown hX hW 0 rfl rfl 4 (by decide) mw_X4_cast_0 (fun _ h9 => h9) rfl (by decide +kernel) rfl rfl (Nat.le_of_ble_eq_true rfl) dX4_cast_74 (fun H locs hW => ?_)
        have hW : zW Z s A ((x, .inr (4, [.ref st, .ref pa, .int (nI np), .int dy, .int (me - (mv * pr3 (sn sv))), .int co, .int ca, .int br, .int ml, .ref sp, .ref se])) :: (st, .inr (2, [.ref sb])) :: (sb, zI Z 290 S) :: (pa, zQ Z 6 (pav ad np)) :: (sp, .inr (3, [.ref spb, .int fp])) :: (spb, zI Z 6 L) :: (se, .inr (1, [.ref sl, .ref sk])) :: (sl, zI Z 29 lf) :: (sk, zI Z 29 tk) :: zpool np (pcs Z ad F G pn)) _ _ := hW
        refine lv_aload_n hx hb dX4_cast_77 rfl (lv_at hl 1 rfl) ?_
        refine z_get (C := RX4) (T := TX4) (N := 11) hx hb hts mw_X4_cast_1 hown hX hW 0 rfl rfl 0 (by decide) mw_X4_cast_2 (fun _ h9 => h9) rfl dX4_cast_78 ?_
        refine lv_iload_n hx hb dX4_cast_81 rfl (lv_at hl 2 rfl) ?_
        refine lv_iconst (v := nI 0) hx hb dX4_cast_82 (by decide) ?_
        refine lv_iload_n hx hb dX4_cast_83 rfl (lv_at hl 3 rfl) ?_
        refine zc_v (va_runV (As := [.int (nI (sn sv)), .int (nI 0), .int mv]) (rest := []) hC (c_X2_change l Z st sb S (sn sv) 0 mv hS9.1 (by omega) _) (cwV 3 hts gX4_cast_X2_change rfl rfl rfl (by decide +kernel) ⟨Nat.le_of_ble_eq_true rfl, Nat.le_of_ble_eq_true rfl⟩) (zpreV (ci := 2) (q0 := 1) hX hW rfl rfl [1, 2] rfl (by decide)) rfl rfl hl.1 rfl (lv_room (Nat.le_of_ble_eq_true rfl)) dX4_cast_84 ⟨Nat.le_of_ble_eq_true rfl, Nat.le_of_ble_eq_true rfl⟩) hX hW [1, 2] rfl (by decide) (fun _ => rfl) (fun u_84 H locs h_84 hW => ?_)
        have hW : zW Z s A ((x, .inr (4, [.ref st, .ref pa, .int (nI np), .int dy, .int (me - (mv * pr3 (sn sv))), .int co, .int ca, .int br, .int ml, .ref sp, .ref se])) :: (st, .inr (2, [.ref sb])) :: (sb, zI Z 290 (upd S ((sn sv) * 10 + 0) (S ((sn sv) * 10 + 0) + mv))) :: (pa, zQ Z 6 (pav ad np)) :: (sp, .inr (3, [.ref spb, .int fp])) :: (spb, zI Z 6 L) :: (se, .inr (1, [.ref sl, .ref sk])) :: (sl, zI Z 29 lf) :: (sk, zI Z 29 tk) :: zpool np (pcs Z ad F G pn)) _ _ := hW
        refine lv_aload_n hx hb dX4_cast_87 rfl (lv_at hl 1 rfl) ?_
        refine lv_dup hx hb dX4_cast_88 rfl ?_
        refine z_get (C := RX4) (T := TX4) (N := 11) hx hb hts mw_X4_cast_1 hown hX hW 0 rfl rfl 6 (by decide) mw_X4_cast_3 (fun _ h9 => h9) rfl dX4_cast_89 ?_
        refine lv_iload_n hx hb dX4_cast_92 rfl (lv_at hl 3 rfl) ?_
        refine lv_iadd hx hb dX4_cast_93 ?_
        refine z_put (C := RX4) (T := TX4) (N := 11) (v := .int (ca + mv)) (ty := .int) hx hb hts mw_X4_cast_1 tyX4 tyX4_ok nmX4 hown hX hW 0 rfl rfl 6 (by decide) mw_X4_cast_3 (fun _ h9 => h9) rfl (by decide +kernel) rfl rfl (Nat.le_of_ble_eq_true rfl) dX4_cast_94 (fun H locs hW => ?_)
        have hW : zW Z s A ((x, .inr (4, [.ref st, .ref pa, .int (nI np), .int dy, .int (me - (mv * pr3 (sn sv))), .int co, .int (ca + mv), .int br, .int ml, .ref sp, .ref se])) :: (st, .inr (2, [.ref sb])) :: (sb, zI Z 290 (upd S ((sn sv) * 10 + 0) (S ((sn sv) * 10 + 0) + mv))) :: (pa, zQ Z 6 (pav ad np)) :: (sp, .inr (3, [.ref spb, .int fp])) :: (spb, zI Z 6 L) :: (se, .inr (1, [.ref sl, .ref sk])) :: (sl, zI Z 29 lf) :: (sk, zI Z 29 tk) :: zpool np (pcs Z ad F G pn)) _ _ := hW
        refine lv_aload_n hx hb dX4_cast_97 rfl (lv_at hl 1 rfl) ?_
        refine z_get (C := RX4) (T := TX4) (N := 11) hx hb hts mw_X4_cast_1 hown hX hW 0 rfl rfl 4 (by decide) mw_X4_cast_0 (fun _ h9 => h9) rfl dX4_cast_98 ?_
        refine vx_ret ?_
        exact z_iret hx hb hr hlk hW () (⟨cdx_0 (fun h6 => h6 hS9) (fun h6 => h6 hM9) (fun h6 => h6.elim (fun h7 => h7 c_28) (fun h7 => h7 c_54)), rfl⟩) (rfl) (by omega) (by omega) dX4_cast_101
      · exact z_throw hx hb hfl hC 3 zfit3 mw_X4_cast_4 mw_X4_cast_5 mw_X4_cast_6 zng3 zgd3 (is := 62) (text := "there would be more than 999 sorts of the sign in the stock") (by decide +kernel) hX hW hl.1 dX4_cast_57 dX4_cast_60 dX4_cast_61 dX4_cast_63 dX4_cast_66 hno hlk (Nat.le_of_ble_eq_true rfl) (Nat.le_of_ble_eq_true rfl) (Nat.le_of_ble_eq_true rfl) (Nat.le_of_ble_eq_true rfl) () (⟨by omega, cdx_3 (fun h6 => h6 hS9) (fun h6 => h6 hM9) (Or.inr c_54)⟩) (rfl) (Nat.le_of_ble_eq_true rfl) (Nat.le_of_ble_eq_true rfl)
    · exact z_throw hx hb hfl hC 3 zfit3 mw_X4_cast_4 mw_X4_cast_5 mw_X4_cast_6 zng3 zgd3 (is := 53) (text := "there is not so much metal") (by decide +kernel) hX hW hl.1 dX4_cast_31 dX4_cast_34 dX4_cast_35 dX4_cast_37 dX4_cast_40 hno hlk (Nat.le_of_ble_eq_true rfl) (Nat.le_of_ble_eq_true rfl) (Nat.le_of_ble_eq_true rfl) (Nat.le_of_ble_eq_true rfl) () (⟨by omega, cdx_3 (fun h6 => h6 hS9) (fun h6 => h6 hM9) (Or.inl c_28)⟩) (rfl) (Nat.le_of_ble_eq_true rfl) (Nat.le_of_ble_eq_true rfl)
