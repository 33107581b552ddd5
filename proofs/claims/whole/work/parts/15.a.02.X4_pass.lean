theorem mw_X4_pass_0 : Cond.classLink RX4 71 (zEx 2) ∈ wsX4_pass := by decide +kernel
theorem mw_X4_pass_1 : Cond.initialized (zEx 2) ∈ wsX4_pass := by decide +kernel
theorem mw_X4_pass_2 : ∀ w ∈ (vx_atS RX4 75 (zEx 2) zEs).filter goodWord, w ∈ wsX4_pass := by decide +kernel
theorem mw_X4_pass_3 : Cond.fieldLink RX4 173 "TypeFoundry" "day" "I" ∈ wsX4_pass := by decide +kernel
theorem mw_X4_pass_4 : ∀ w ∈ wsX40, w ∈ wsX4_pass := by decide +kernel
theorem mw_X4_pass_5 : Cond.fieldLink RX4 18 "TypeFoundry" "printers" "[LTypeFoundry$Printer;" ∈ wsX4_pass := by decide +kernel
theorem mw_X4_pass_6 : ∀ w ∈ wsX00, w ∈ wsX4_pass := by decide +kernel
abbrev wp_X4_pass (Z : zT) (x st sb pa sp spb se sl sk np : Nat) (S : Nat → Int32) (dy me co ca br ml fp : Int32) (L lf tk : Nat → Int32) (ad : Nat → Nat → Nat) (F G pn : Nat → Nat → Int32) (dv : Int32) : Unit → va_W := fun (u : Unit) => ((x, .inr (4, [.ref st, .ref pa, .int (nI np), .int (dy + dv), .int me, .int co, .int ca, .int br, .int ml, .ref sp, .ref se])) :: (st, .inr (2, [.ref sb])) :: (sb, zI Z 290 S) :: (pa, zQ Z 6 (pav ad np)) :: (sp, .inr (3, [.ref spb, .int fp])) :: (spb, zI Z 6 L) :: (se, .inr (1, [.ref sl, .ref sk])) :: (sl, zI Z 29 lf) :: (sk, zI Z 29 tk) :: zpool np (pcs Z ad F G (psS dv F G pn np).1))
abbrev po_X4_pass (Z : zT) (x st sb pa sp spb se sl sk np : Nat) (S : Nat → Int32) (dy me co ca br ml fp : Int32) (L lf tk : Nat → Int32) (ad : Nat → Nat → Nat) (F G pn : Nat → Nat → Int32) (dv : Int32) : Int32 → Unit → Prop := fun (r : Int32) (u : Unit) => 0 = cdx (False) (¬ inR dv 1 100) (False) ∧ r = (psS dv F G pn np).2
abbrev wx_X4_pass (Z : zT) (x st sb pa sp spb se sl sk np : Nat) (S : Nat → Int32) (dy me co ca br ml fp : Int32) (L lf tk : Nat → Int32) (ad : Nat → Nat → Nat) (F G pn : Nat → Nat → Int32) (dv : Int32) : Unit → va_W := fun (u : Unit) => ((x, .inr (4, [.ref st, .ref pa, .int (nI np), .int dy, .int me, .int co, .int ca, .int br, .int ml, .ref sp, .ref se])) :: (st, .inr (2, [.ref sb])) :: (sb, zI Z 290 S) :: (pa, zQ Z 6 (pav ad np)) :: (sp, .inr (3, [.ref spb, .int fp])) :: (spb, zI Z 6 L) :: (se, .inr (1, [.ref sl, .ref sk])) :: (sl, zI Z 29 lf) :: (sk, zI Z 29 tk) :: zpool np (pcs Z ad F G pn))
abbrev px_X4_pass (Z : zT) (x st sb pa sp spb se sl sk np : Nat) (S : Nat → Int32) (dy me co ca br ml fp : Int32) (L lf tk : Nat → Int32) (ad : Nat → Nat → Nat) (F G pn : Nat → Nat → Int32) (dv : Int32) : Nat → Unit → Prop := fun (k : Nat) (u : Unit) => 1 ≤ k ∧ k = cdx (False) (¬ inR dv 1 100) (False)
abbrev rm_X4_pass : Room := { frames := 6, cells := 5, slots := 30, locals := 82 }
set_option maxHeartbeats 4000000 in
set_option maxRecDepth 100000 in
theorem c_X4_pass (l : Launch) (Z : zT) (x st sb pa sp spb se sl sk np : Nat) (S : Nat → Int32) (dy me co ca br ml fp : Int32) (L lf tk : Nat → Int32) (ad : Nat → Nat → Nat) (F G pn : Nat → Nat → Int32) (dv : Int32) (hfl : l.stackTraces = false) (hnp : np ≤ 6) : zTet l yX4_pass wsX4_pass rm_X4_pass [.ref x, .int dv] Z ((x, .inr (4, [.ref st, .ref pa, .int (nI np), .int dy, .int me, .int co, .int ca, .int br, .int ml, .ref sp, .ref se])) :: (st, .inr (2, [.ref sb])) :: (sb, zI Z 290 S) :: (pa, zQ Z 6 (pav ad np)) :: (sp, .inr (3, [.ref spb, .int fp])) :: (spb, zI Z 6 L) :: (se, .inr (1, [.ref sl, .ref sk])) :: (sl, zI Z 29 lf) :: (sk, zI Z 29 tk) :: zpool np (pcs Z ad F G pn)) (zQi Z (po_X4_pass Z x st sb pa sp spb se sl sk np S dy me co ca br ml fp L lf tk ad F G pn dv) (wp_X4_pass Z x st sb pa sp spb se sl sk np S dy me co ca br ml fp L lf tk ad F G pn dv)) (zXC Z (px_X4_pass Z x st sb pa sp spb se sl sk np S dy me co ca br ml fp L lf tk ad F G pn dv) (wx_X4_pass Z x st sb pa sp spb se sl sk np S dy me co ca br ml fp L lf tk ad F G pn dv)) 5 30 := by
  refine ztstart (cc := cX4_pass) (maxL := 5) (ret := (some .int)) (by decide) rfl (Nat.le_of_ble_eq_true rfl) ?_
  intro p e s m below meth c ls A hx hb hr hC hlk hno hX hW hl
  have hml := hC.2.2.1
  have hown : s.vm.findClass RX4 = some m.cls := hC.2.2.2.1
  have hts := hC.2.2.2.2
  have hl : lv_has ls 5 [(0, .ref x), (1, .int dv)] := hl
  refine lv_iload_n hx hb dX4_pass_0 rfl (lv_at hl 1 rfl) ?_
  refine lv_iconst (v := nI 1) hx hb dX4_pass_1 (by decide) ?_
  refine lv_icmp_lt (tgt := 11) hx hb dX4_pass_2 (by decide) (fun c_2 => ?_) (fun c_2 => ?_)
  · exact z_throw hx hb hfl hC 2 zfit2 mw_X4_pass_0 mw_X4_pass_1 mw_X4_pass_2 zng2 zgd2 (is := 171) (text := "days is not 1 to 100") (by decide +kernel) hX hW hl.1 dX4_pass_11 dX4_pass_14 dX4_pass_15 dX4_pass_17 dX4_pass_20 hno hlk (Nat.le_of_ble_eq_true rfl) (Nat.le_of_ble_eq_true rfl) (Nat.le_of_ble_eq_true rfl) (Nat.le_of_ble_eq_true rfl) () (⟨by omega, cdx_2 (fun h6 => h6) (by first | exact inR_lo c_2 | exact inR_hi c_8)⟩) (rfl) (Nat.le_of_ble_eq_true rfl) (Nat.le_of_ble_eq_true rfl)
  · refine lv_iload_n hx hb dX4_pass_5 rfl (lv_at hl 1 rfl) ?_
    refine lv_bipush (v := nI 100) hx hb dX4_pass_6 (by decide) ?_
    refine lv_icmp_le (tgt := 21) hx hb dX4_pass_8 (by decide) (fun c_8 => ?_) (fun c_8 => ?_)
    · have hR9 := inR_of c_2 c_8
      refine lv_aload_n hx hb dX4_pass_21 rfl (lv_at hl 0 rfl) ?_
      refine lv_dup hx hb dX4_pass_22 rfl ?_
      refine z_get (C := RX4) (T := TX4) (N := 11) hx hb hts mw_X4_pass_4 hown hX hW 0 rfl rfl 3 (by decide) mw_X4_pass_3 (fun _ h9 => h9) rfl dX4_pass_23 ?_
      refine lv_iload_n hx hb dX4_pass_26 rfl (lv_at hl 1 rfl) ?_
      refine lv_iadd hx hb dX4_pass_27 ?_
      refine z_put (C := RX4) (T := TX4) (N := 11) (v := .int (dy + dv)) (ty := .int) hx hb hts mw_X4_pass_4 tyX4 tyX4_ok nmX4 hown hX hW 0 rfl rfl 3 (by decide) mw_X4_pass_3 (fun _ h9 => h9) rfl (by decide +kernel) rfl rfl (Nat.le_of_ble_eq_true rfl) dX4_pass_28 (fun H locs hW => ?_)
      have hW : zW Z s A ((x, .inr (4, [.ref st, .ref pa, .int (nI np), .int (dy + dv), .int me, .int co, .int ca, .int br, .int ml, .ref sp, .ref se])) :: (st, .inr (2, [.ref sb])) :: (sb, zI Z 290 S) :: (pa, zQ Z 6 (pav ad np)) :: (sp, .inr (3, [.ref spb, .int fp])) :: (spb, zI Z 6 L) :: (se, .inr (1, [.ref sl, .ref sk])) :: (sl, zI Z 29 lf) :: (sk, zI Z 29 tk) :: zpool np (pcs Z ad F G pn)) _ _ := hW
      refine lv_iconst (v := nI 0) hx hb dX4_pass_31 (by decide) ?_
      refine lv_istore_n (lv' := [(2, .int (nI 0)), (0, .ref x), (1, .int dv)]) hx hb dX4_pass_32 rfl hl (by decide) rfl (fun ls hl => ?_)
      refine lv_iconst (v := nI 0) hx hb dX4_pass_33 (by decide) ?_
      refine lv_istore_n (lv' := [(3, .int (nI 0)), (2, .int (nI 0)), (0, .ref x), (1, .int dv)]) hx hb dX4_pass_34 rfl hl (by decide) rfl (fun ls hl => ?_)
      have loop_35 : ∀ (n : Nat) (j : Nat) (y : Int32) (F8 : Nat → Nat → Int32) (G8 : Nat → Nat → Int32) (p8 : Nat → Nat → Int32), (j ≤ 6) → (y = (psS dv F G pn (min j np)).2) → (F8 = F) → (G8 = G) → (p8 = (psS dv F G pn (min j np)).1) → (6 - j < n) → ∀ (H : Heap) (locs : List Loc) (ls : Array Slot), zW Z s A ((x, .inr (4, [.ref st, .ref pa, .int (nI np), .int (dy + dv), .int me, .int co, .int ca, .int br, .int ml, .ref sp, .ref se])) :: (st, .inr (2, [.ref sb])) :: (sb, zI Z 290 S) :: (pa, zQ Z 6 (pav ad np)) :: (sp, .inr (3, [.ref spb, .int fp])) :: (spb, zI Z 6 L) :: (se, .inr (1, [.ref sl, .ref sk])) :: (sl, zI Z 29 lf) :: (sk, zI Z 29 tk) :: zpool np (pcs Z ad F8 G8 p8)) H locs → lv_has ls 5 [(3, .int (nI j)), (2, .int y), (0, .ref x), (1, .int dv)] → W p l e rm_X4_pass s m ([.ref x, .int dv] : List Value).toArray below meth c H locs 0 0 (vx_MQ below (zQi Z (po_X4_pass Z x st sb pa sp spb se sl sk np S dy me co ca br ml fp L lf tk ad F G pn dv) (wp_X4_pass Z x st sb pa sp spb se sl sk np S dy me co ca br ml fp L lf tk ad F G pn dv) A) (zXC Z (px_X4_pass Z x st sb pa sp spb se sl sk np S dy me co ca br ml fp L lf tk ad F G pn dv) (wx_X4_pass Z x st sb pa sp spb se sl sk np S dy me co ca br ml fp L lf tk ad F G pn dv) A) ([.ref x, .int dv] : List Value).toArray s 5 30 A) (F0 m 35 ls []) := by
        intro n
        induction n with
        | zero =>
          intro j y F8 G8 p8 hj hy9 hF9 hG9 hp9 hm
          exact absurd hm (Nat.not_lt_zero _)
        | succ n ih =>
          intro j y F8 G8 p8 hj hy9 hF9 hG9 hp9 hm H locs ls hW hl
          have ih_35 := ih
          refine lv_iload_n hx hb dX4_pass_35 rfl (lv_at hl 0 rfl) ?_
          refine lv_aload_n hx hb dX4_pass_36 rfl (lv_at hl 2 rfl) ?_
          refine z_get (C := RX4) (T := TX4) (N := 11) hx hb hts mw_X4_pass_4 hown hX hW 0 rfl rfl 1 (by decide) mw_X4_pass_5 (fun _ h9 => h9) rfl dX4_pass_37 ?_
          refine z_alenq hx hb hX hW 3 rfl dX4_pass_40 ?_
          refine zn_icmp_ge (tgt := 88) (a := j) (b := 6) hx hb (by omega) (by omega) dX4_pass_41 (by decide) (fun c_41 => ?_) (fun c_41 => ?_)
          · refine lv_iload_n hx hb dX4_pass_88 rfl (lv_at hl 1 rfl) ?_
            refine vx_ret ?_
            exact z_iret hx hb hr hlk hW () (⟨cdx_0 (fun h6 => h6) (fun h6 => h6 hR9) (fun h6 => h6), by rw [hy9, show min j np = np by omega]⟩) (by rw [hF9, hG9, hp9, show min j np = np by omega]) (by omega) (by omega) dX4_pass_89
          · refine lv_aload_n hx hb dX4_pass_44 rfl (lv_at hl 2 rfl) ?_
            refine z_get (C := RX4) (T := TX4) (N := 11) hx hb hts mw_X4_pass_4 hown hX hW 0 rfl rfl 1 (by decide) mw_X4_pass_5 (fun _ h9 => h9) rfl dX4_pass_45 ?_
            refine lv_iload_n hx hb dX4_pass_48 rfl (lv_at hl 0 rfl) ?_
            refine z_aldq hx hb hX hW 3 rfl (k := j) (by omega) (by omega) dX4_pass_49 ?_
            rcases Nat.lt_or_ge j np with hz | hz
            · refine zw_topq (pav_s hz) ?_
              have hW := zW_perm hW (zp_out (Z := Z) [(x, .inr (4, [.ref st, .ref pa, .int (nI np), .int (dy + dv), .int me, .int co, .int ca, .int br, .int ml, .ref sp, .ref se])), (st, .inr (2, [.ref sb])), (sb, zI Z 290 S), (pa, zQ Z 6 (pav ad np)), (sp, .inr (3, [.ref spb, .int fp])), (spb, zI Z 6 L), (se, .inr (1, [.ref sl, .ref sk])), (sl, zI Z 29 lf), (sk, zI Z 29 tk)] hz)
              have hW : zW Z s A ((x, .inr (4, [.ref st, .ref pa, .int (nI np), .int (dy + dv), .int me, .int co, .int ca, .int br, .int ml, .ref sp, .ref se])) :: (st, .inr (2, [.ref sb])) :: (sb, zI Z 290 S) :: (pa, zQ Z 6 (pav ad np)) :: (sp, .inr (3, [.ref spb, .int fp])) :: (spb, zI Z 6 L) :: (se, .inr (1, [.ref sl, .ref sk])) :: (sl, zI Z 29 lf) :: (sk, zI Z 29 tk) :: (ad j 0, .inr (0, [.ref (ad j 1), .ref (ad j 3), .int (p8 j 0), .int (p8 j 1), .int (p8 j 2), .int (p8 j 3)])) :: (ad j 1, .inr (2, [.ref (ad j 2)])) :: (ad j 2, zI Z 290 (F8 j)) :: (ad j 3, .inr (2, [.ref (ad j 4)])) :: (ad j 4, zI Z 290 (G8 j)) :: zrest j np (pcs Z ad F8 G8 p8)) _ _ := hW
              refine lv_astore (lv' := [(4, .ref (ad j 0)), (3, .int (nI j)), (2, .int y), (0, .ref x), (1, .int dv)]) hx hb dX4_pass_50 hl (by decide) rfl (fun ls hl => ?_)
              refine lv_aload hx hb dX4_pass_52 (lv_at hl 0 rfl) ?_
              refine lv_ifnull hx hb dX4_pass_54 ?_
              refine lv_aload hx hb dX4_pass_57 (lv_at hl 0 rfl) ?_
              refine lv_dup hx hb dX4_pass_59 rfl ?_
              refine z_getN (C := RX0) (T := TX0) (N := 6) (host := RX4) hx hb hts mw_X4_pass_6 hown hX hW 9 rfl rfl 3 (by decide) (by decide +kernel) (fun _ h9 => h9) rfl dX4_pass_60 ?_
              refine lv_iload_n hx hb dX4_pass_63 rfl (lv_at hl 4 rfl) ?_
              refine lv_aload hx hb dX4_pass_64 (lv_at hl 0 rfl) ?_
              refine zc_i (va_runV (As := []) (rest := [.int dv, .int (p8 j 1), .ref (ad j 0)]) hC (c_X0_rentOfADay l Z (ad j 0) (ad j 1) (ad j 2) (ad j 3) (ad j 4) (F8 j) (G8 j) (p8 j 0) (p8 j 1) (p8 j 2) (p8 j 3)  _) (cwV 0 hts gX4_pass_X0_rentOfADay rfl rfl rfl (by decide +kernel) ⟨Nat.le_of_ble_eq_true rfl, Nat.le_of_ble_eq_true rfl⟩) (zpreV (ci := 0) (q0 := 9) hX hW rfl rfl [9, 10, 11, 12, 13] rfl (by decide)) rfl rfl hl.1 rfl (lv_room (Nat.le_of_ble_eq_true rfl)) dX4_pass_66 ⟨Nat.le_of_ble_eq_true rfl, Nat.le_of_ble_eq_true rfl⟩) hX hW [9, 10, 11, 12, 13] rfl (by decide) (fun _ => rfl) (fun r_66 u_66 H locs h_66 hW => ?_)
              have hW : zW Z s A ((x, .inr (4, [.ref st, .ref pa, .int (nI np), .int (dy + dv), .int me, .int co, .int ca, .int br, .int ml, .ref sp, .ref se])) :: (st, .inr (2, [.ref sb])) :: (sb, zI Z 290 S) :: (pa, zQ Z 6 (pav ad np)) :: (sp, .inr (3, [.ref spb, .int fp])) :: (spb, zI Z 6 L) :: (se, .inr (1, [.ref sl, .ref sk])) :: (sl, zI Z 29 lf) :: (sk, zI Z 29 tk) :: (ad j 0, .inr (0, [.ref (ad j 1), .ref (ad j 3), .int (p8 j 0), .int (p8 j 1), .int (p8 j 2), .int (p8 j 3)])) :: (ad j 1, .inr (2, [.ref (ad j 2)])) :: (ad j 2, zI Z 290 (F8 j)) :: (ad j 3, .inr (2, [.ref (ad j 4)])) :: (ad j 4, zI Z 290 (G8 j)) :: zrest j np (pcs Z ad F8 G8 p8)) _ _ := hW
              subst h_66
              refine lv_imul hx hb dX4_pass_69 ?_
              refine lv_iadd hx hb dX4_pass_70 ?_
              refine z_putN (C := RX0) (T := TX0) (N := 6) (host := RX4) (v := .int ((p8 j 1) + (dv * ((bx_sum (F8 j) 290 + bx_sum (G8 j) 290 + nI 10 - nI 1) / nI 10)))) (ty := .int) hx hb hts mw_X4_pass_6 tyX0 tyX0_ok nmX0 hown hX hW 9 rfl rfl 3 (by decide) (by decide +kernel) (fun _ h9 => h9) rfl (by decide +kernel) rfl rfl (Nat.le_of_ble_eq_true rfl) dX4_pass_71 (fun H locs hW => ?_)
              have hW : zW Z s A ((x, .inr (4, [.ref st, .ref pa, .int (nI np), .int (dy + dv), .int me, .int co, .int ca, .int br, .int ml, .ref sp, .ref se])) :: (st, .inr (2, [.ref sb])) :: (sb, zI Z 290 S) :: (pa, zQ Z 6 (pav ad np)) :: (sp, .inr (3, [.ref spb, .int fp])) :: (spb, zI Z 6 L) :: (se, .inr (1, [.ref sl, .ref sk])) :: (sl, zI Z 29 lf) :: (sk, zI Z 29 tk) :: (ad j 0, .inr (0, [.ref (ad j 1), .ref (ad j 3), .int (p8 j 0), .int ((p8 j 1) + (dv * ((bx_sum (F8 j) 290 + bx_sum (G8 j) 290 + nI 10 - nI 1) / nI 10))), .int (p8 j 2), .int (p8 j 3)])) :: (ad j 1, .inr (2, [.ref (ad j 2)])) :: (ad j 2, zI Z 290 (F8 j)) :: (ad j 3, .inr (2, [.ref (ad j 4)])) :: (ad j 4, zI Z 290 (G8 j)) :: zrest j np (pcs Z ad F8 G8 p8)) _ _ := hW
              refine lv_iload_n hx hb dX4_pass_74 rfl (lv_at hl 2 rfl) ?_
              refine lv_aload hx hb dX4_pass_75 (lv_at hl 0 rfl) ?_
              refine z_getN (C := RX0) (T := TX0) (N := 6) (host := RX4) hx hb hts mw_X4_pass_6 hown hX hW 9 rfl rfl 3 (by decide) (by decide +kernel) (fun _ h9 => h9) rfl dX4_pass_77 ?_
              refine lv_iadd hx hb dX4_pass_80 ?_
              refine lv_istore_n (lv' := [(2, .int (y + ((p8 j 1) + (dv * ((bx_sum (F8 j) 290 + bx_sum (G8 j) 290 + nI 10 - nI 1) / nI 10))))), (4, .ref (ad j 0)), (3, .int (nI j)), (0, .ref x), (1, .int dv)]) hx hb dX4_pass_81 rfl hl (by decide) rfl (fun ls hl => ?_)
              have hW := zW_perm hW (zp_in (Z := Z) [(x, .inr (4, [.ref st, .ref pa, .int (nI np), .int (dy + dv), .int me, .int co, .int ca, .int br, .int ml, .ref sp, .ref se])), (st, .inr (2, [.ref sb])), (sb, zI Z 290 S), (pa, zQ Z 6 (pav ad np)), (sp, .inr (3, [.ref spb, .int fp])), (spb, zI Z 6 L), (se, .inr (1, [.ref sl, .ref sk])), (sl, zI Z 29 lf), (sk, zI Z 29 tk)] (F8 j) (G8 j) (p8 j 0) ((p8 j 1) + (dv * ((bx_sum (F8 j) 290 + bx_sum (G8 j) 290 + nI 10 - nI 1) / nI 10))) (p8 j 2) (p8 j 3) hz)
              have hW : zW Z s A ((x, .inr (4, [.ref st, .ref pa, .int (nI np), .int (dy + dv), .int me, .int co, .int ca, .int br, .int ml, .ref sp, .ref se])) :: (st, .inr (2, [.ref sb])) :: (sb, zI Z 290 S) :: (pa, zQ Z 6 (pav ad np)) :: (sp, .inr (3, [.ref spb, .int fp])) :: (spb, zI Z 6 L) :: (se, .inr (1, [.ref sl, .ref sk])) :: (sl, zI Z 29 lf) :: (sk, zI Z 29 tk) :: zpool np (pcs Z ad (up F8 j (F8 j)) (up G8 j (G8 j)) (up p8 j (q4 (p8 j 0) ((p8 j 1) + (dv * ((bx_sum (F8 j) 290 + bx_sum (G8 j) 290 + nI 10 - nI 1) / nI 10))) (p8 j 2) (p8 j 3))))) _ _ := hW
              refine lv_iinc (v := nI (j + 1)) (lv' := [(3, .int (nI (j + 1))), (2, .int (y + ((p8 j 1) + (dv * ((bx_sum (F8 j) 290 + bx_sum (G8 j) 290 + nI 10 - nI 1) / nI 10))))), (4, .ref (ad j 0)), (0, .ref x), (1, .int dv)]) hx hb dX4_pass_82 hl (k := 2) rfl (zinc1 _) (by decide) rfl (fun ls hl => ?_)
              refine lv_goto (tgt := 35) hx hb dX4_pass_85 (by decide) ?_
              have hl : lv_has ls 5 [(3, .int (nI (j + 1))), (2, .int (y + ((p8 j 1) + (dv * ((bx_sum (F8 j) 290 + bx_sum (G8 j) 290 + nI 10 - nI 1) / nI 10))))), (0, .ref x), (1, .int dv)] := lv_sub hl [0, 1, 3, 4] rfl
              exact ih_35 (j + 1) (y + ((p8 j 1) + (dv * ((bx_sum (F8 j) 290 + bx_sum (G8 j) 290 + nI 10 - nI 1) / nI 10)))) (up F8 j (F8 j)) (up G8 j (G8 j)) (up p8 j (q4 (p8 j 0) ((p8 j 1) + (dv * ((bx_sum (F8 j) 290 + bx_sum (G8 j) 290 + nI 10 - nI 1) / nI 10))) (p8 j 2) (p8 j 3))) (by omega) (by subst hy9 hF9 hG9 hp9; first | (rw [psS_lt hz]; rfl) | rw [psS_ge hz]) (by first | exact hF9 | (rw [up_self]; exact hF9)) (by first | exact hG9 | (rw [up_self]; exact hG9)) (by subst hy9 hF9 hG9 hp9; first | (rw [psS_lt hz]; rfl) | rw [psS_ge hz]) (by omega) _ _ _ hW hl
            · refine zw_topn (pav_n (by omega)) ?_
              refine lv_astoreN (lv' := [(4, .null), (3, .int (nI j)), (2, .int y), (0, .ref x), (1, .int dv)]) hx hb dX4_pass_50 hl (by decide) rfl (fun ls hl => ?_)
              refine lv_aloadN hx hb dX4_pass_52 (lv_at hl 0 rfl) ?_
              refine lv_ifnullN (tgt := 82) hx hb dX4_pass_54 (by decide) ?_
              refine lv_iinc (v := nI (j + 1)) (lv' := [(3, .int (nI (j + 1))), (4, .null), (2, .int y), (0, .ref x), (1, .int dv)]) hx hb dX4_pass_82 hl (k := 1) rfl (zinc1 _) (by decide) rfl (fun ls hl => ?_)
              refine lv_goto (tgt := 35) hx hb dX4_pass_85 (by decide) ?_
              have hl : lv_has ls 5 [(3, .int (nI (j + 1))), (2, .int y), (0, .ref x), (1, .int dv)] := lv_sub hl [0, 2, 3, 4] rfl
              exact ih_35 (j + 1) y F8 G8 p8 (by omega) (by subst hy9 hF9 hG9 hp9; first | (rw [psS_lt hz]; rfl) | rw [psS_ge hz]) (by first | exact hF9 | (rw [up_self]; exact hF9)) (by first | exact hG9 | (rw [up_self]; exact hG9)) (by subst hy9 hF9 hG9 hp9; first | (rw [psS_lt hz]; rfl) | rw [psS_ge hz]) (by omega) _ _ _ hW hl
      have hl : lv_has ls 5 [(3, .int (nI 0)), (2, .int (nI 0)), (0, .ref x), (1, .int dv)] := lv_sub hl [0, 1, 2, 3] rfl
      exact loop_35 _ 0 (nI 0) F G pn (by omega) (by rw [show min 0 np = 0 by omega]; rfl) rfl rfl (by rw [show min 0 np = 0 by omega]; rfl) (Nat.lt_succ_self _) _ _ _ hW hl
    · exact z_throw hx hb hfl hC 2 zfit2 mw_X4_pass_0 mw_X4_pass_1 mw_X4_pass_2 zng2 zgd2 (is := 171) (text := "days is not 1 to 100") (by decide +kernel) hX hW hl.1 dX4_pass_11 dX4_pass_14 dX4_pass_15 dX4_pass_17 dX4_pass_20 hno hlk (Nat.le_of_ble_eq_true rfl) (Nat.le_of_ble_eq_true rfl) (Nat.le_of_ble_eq_true rfl) (Nat.le_of_ble_eq_true rfl) () (⟨by omega, cdx_2 (fun h6 => h6) (by first | exact inR_lo c_2 | exact inR_hi c_8)⟩) (rfl) (Nat.le_of_ble_eq_true rfl) (Nat.le_of_ble_eq_true rfl)
