theorem mw_X5_digest_0 : Cond.fieldLink RX5 38 "TypeFoundryModel" "thrown" "I" ∈ wsX5_digest := by decide +kernel
theorem mw_X5_digest_1 : ∀ w ∈ wsX50, w ∈ wsX5_digest := by decide +kernel
theorem mw_X5_digest_2 : Cond.constantLong RX5 134 (751) ∈ wsX5_digest := by decide +kernel
theorem mw_X5_digest_3 : Cond.fieldLink RX5 41 "TypeFoundryModel" "printers" "I" ∈ wsX5_digest := by decide +kernel
theorem mw_X5_digest_4 : Cond.constantLong RX5 136 (31) ∈ wsX5_digest := by decide +kernel
theorem mw_X5_digest_5 : Cond.fieldLink RX5 13 "TypeFoundryModel" "store" "[I" ∈ wsX5_digest := by decide +kernel
abbrev wp_X5_digest (Z : zT) (o0 o1 o2 o3 o4 o5 o6 o7 o8 np : Nat) (th dy me co ca br ml le : Int32) (S E Tk Lf : Nat → Int32) (F G pn : Nat → Nat → Int32) : Int32 → va_W := fun (u : Int32) => match u with | th_1 => [(o0, .inr (5, [.int th_1, .int dy, .int me, .int co, .int (nI np), .int ca, .int br, .int ml, .ref o1, .ref o2, .ref o3, .ref o4, .ref o5, .ref o6, .int le, .ref o7, .ref o8])), (o1, zI Z 3770 (stF S F G)), (o2, zI Z 6 (qF pn 0)), (o3, zI Z 6 (qF pn 1)), (o4, zI Z 6 (qF pn 2)), (o5, zI Z 6 (qF pn 3)), (o6, zI Z 6 E), (o7, zI Z 29 Tk), (o8, zI Z 29 Lf)]
abbrev po_X5_digest (Z : zT) (o0 o1 o2 o3 o4 o5 o6 o7 o8 np : Nat) (th dy me co ca br ml le : Int32) (S E Tk Lf : Nat → Int32) (F G pn : Nat → Nat → Int32) : Int64 → Int32 → Prop := fun (r : Int64) (u : Int32) => match u with | th_1 => th_1 = nI 0 ∧ r = d3S (d2S (dg (d1S dy me co S np ca br ml 8) S 290) F np) F G pn np
abbrev rm_X5_digest : Room := { frames := 2, cells := 50, slots := 358, locals := 46 }
set_option maxHeartbeats 4000000 in
set_option maxRecDepth 100000 in
theorem c_X5_digest (l : Launch) (Z : zT) (o0 o1 o2 o3 o4 o5 o6 o7 o8 np : Nat) (th dy me co ca br ml le : Int32) (S E Tk Lf : Nat → Int32) (F G pn : Nat → Nat → Int32) (hG : GA S F G) (hnp : np ≤ 6) : zMet l yX5_digest wsX5_digest rm_X5_digest [.ref o0] Z [(o0, .inr (5, [.int th, .int dy, .int me, .int co, .int (nI np), .int ca, .int br, .int ml, .ref o1, .ref o2, .ref o3, .ref o4, .ref o5, .ref o6, .int le, .ref o7, .ref o8])), (o1, zI Z 3770 (stF S F G)), (o2, zI Z 6 (qF pn 0)), (o3, zI Z 6 (qF pn 1)), (o4, zI Z 6 (qF pn 2)), (o5, zI Z 6 (qF pn 3)), (o6, zI Z 6 E), (o7, zI Z 29 Tk), (o8, zI Z 29 Lf)] (zQl Z (po_X5_digest Z o0 o1 o2 o3 o4 o5 o6 o7 o8 np th dy me co ca br ml le S E Tk Lf F G pn) (wp_X5_digest Z o0 o1 o2 o3 o4 o5 o6 o7 o8 np th dy me co ca br ml le S E Tk Lf F G pn)) 50 358 := by
  refine zstart (cc := cX5_digest) (maxL := 5) (ret := (some .long)) (by decide) rfl (Nat.le_of_ble_eq_true rfl) ?_
  intro p e s m below meth c ls A hx hb hr hC hlk hnm hX hW hl
  have hml := hC.2.2.1
  have hown : s.vm.findClass RX5 = some m.cls := hC.2.2.2.1
  have hts := hC.2.2.2.2
  have hl : lv_has ls 5 [(0, .ref o0)] := hl
  refine lv_aload_n hx hb dX5_digest_0 rfl (lv_at hl 0 rfl) ?_
  refine lv_iconst (v := nI 0) hx hb dX5_digest_1 (by decide) ?_
  refine z_put (C := RX5) (T := TX5) (N := 17) (v := .int (nI 0)) (ty := .int) hx hb hts mw_X5_digest_1 tyX5 tyX5_ok nmX5 hown hX hW 0 rfl rfl 0 (by decide) mw_X5_digest_0 (fun _ h9 => h9) rfl (by decide +kernel) rfl rfl (Nat.le_of_ble_eq_true rfl) dX5_digest_2 (fun H locs hW => ?_)
  have hW : zW Z s A [(o0, .inr (5, [.int (nI 0), .int dy, .int me, .int co, .int (nI np), .int ca, .int br, .int ml, .ref o1, .ref o2, .ref o3, .ref o4, .ref o5, .ref o6, .int le, .ref o7, .ref o8])), (o1, zI Z 3770 (stF S F G)), (o2, zI Z 6 (qF pn 0)), (o3, zI Z 6 (qF pn 1)), (o4, zI Z 6 (qF pn 2)), (o5, zI Z 6 (qF pn 3)), (o6, zI Z 6 E), (o7, zI Z 29 Tk), (o8, zI Z 29 Lf)] _ _ := hW
  refine lv_ldc2 (own := RX5) (v := 751) hx hb hown (hts _ mw_X5_digest_2) dX5_digest_5 ?_
  refine lv_lstore_n (lv' := [(1, .long 751), (0, .ref o0)]) hx hb dX5_digest_8 rfl hl (by decide) rfl (fun ls hl => ?_)
  refine lv_iconst (v := nI 0) hx hb dX5_digest_9 (by decide) ?_
  refine lv_istore_n (lv' := [(3, .int (nI 0)), (1, .long 751), (0, .ref o0)]) hx hb dX5_digest_10 rfl hl (by decide) rfl (fun ls hl => ?_)
  have loop_11 : ∀ (n : Nat) (i : Nat), (i ≤ 8) → (8 - i < n) → ∀ (H : Heap) (locs : List Loc) (ls : Array Slot), zW Z s A [(o0, .inr (5, [.int (nI 0), .int dy, .int me, .int co, .int (nI np), .int ca, .int br, .int ml, .ref o1, .ref o2, .ref o3, .ref o4, .ref o5, .ref o6, .int le, .ref o7, .ref o8])), (o1, zI Z 3770 (stF S F G)), (o2, zI Z 6 (qF pn 0)), (o3, zI Z 6 (qF pn 1)), (o4, zI Z 6 (qF pn 2)), (o5, zI Z 6 (qF pn 3)), (o6, zI Z 6 E), (o7, zI Z 29 Tk), (o8, zI Z 29 Lf)] H locs → lv_has ls 5 [(3, .int (nI i)), (1, .long (d1S dy me co S np ca br ml i)), (0, .ref o0)] → W p l e rm_X5_digest s m ([.ref o0] : List Value).toArray below meth c H locs i (8 * i) (MQ below (zQl Z (po_X5_digest Z o0 o1 o2 o3 o4 o5 o6 o7 o8 np th dy me co ca br ml le S E Tk Lf F G pn) (wp_X5_digest Z o0 o1 o2 o3 o4 o5 o6 o7 o8 np th dy me co ca br ml le S E Tk Lf F G pn) A) ([.ref o0] : List Value).toArray s 50 358 A) (F0 m 11 ls []) := by
    intro n
    induction n with
    | zero =>
      intro i hi hm
      exact absurd hm (Nat.not_lt_zero _)
    | succ n ih =>
      intro i hi hm H locs ls hW hl
      have ih_11 := ih
      refine lv_iload_n hx hb dX5_digest_11 rfl (lv_at hl 0 rfl) ?_
      refine lv_bipush (v := nI 7) hx hb dX5_digest_12 (by decide) ?_
      refine zn_icmp_gt (tgt := 36) (a := i) (b := 7) hx hb (by omega) (by omega) dX5_digest_14 (by decide) (fun c_14 => ?_) (fun c_14 => ?_)
      · refine lv_iconst (v := nI 0) hx hb dX5_digest_36 (by decide) ?_
        refine lv_istore_n (lv' := [(3, .int (nI 0)), (1, .long (d1S dy me co S np ca br ml i)), (0, .ref o0)]) hx hb dX5_digest_37 rfl hl (by decide) rfl (fun ls hl => ?_)
        have loop_38 : ∀ (n : Nat) (i2 : Nat) (y : Int64), (i2 ≤ 290 * (1 + np)) → (y = dg (d1S dy me co S np ca br ml 8) (stF S F G) i2) → (290 * (1 + np) - i2 < n) → ∀ (H : Heap) (locs : List Loc) (ls : Array Slot), zW Z s A [(o0, .inr (5, [.int (nI 0), .int dy, .int me, .int co, .int (nI np), .int ca, .int br, .int ml, .ref o1, .ref o2, .ref o3, .ref o4, .ref o5, .ref o6, .int le, .ref o7, .ref o8])), (o1, zI Z 3770 (stF S F G)), (o2, zI Z 6 (qF pn 0)), (o3, zI Z 6 (qF pn 1)), (o4, zI Z 6 (qF pn 2)), (o5, zI Z 6 (qF pn 3)), (o6, zI Z 6 E), (o7, zI Z 29 Tk), (o8, zI Z 29 Lf)] H locs → lv_has ls 5 [(3, .int (nI i2)), (1, .long y), (0, .ref o0)] → W p l e rm_X5_digest s m ([.ref o0] : List Value).toArray below meth c H locs 8 64 (MQ below (zQl Z (po_X5_digest Z o0 o1 o2 o3 o4 o5 o6 o7 o8 np th dy me co ca br ml le S E Tk Lf F G pn) (wp_X5_digest Z o0 o1 o2 o3 o4 o5 o6 o7 o8 np th dy me co ca br ml le S E Tk Lf F G pn) A) ([.ref o0] : List Value).toArray s 50 358 A) (F0 m 38 ls []) := by
          intro n
          induction n with
          | zero =>
            intro i2 y hi2 hy9 hm
            exact absurd hm (Nat.not_lt_zero _)
          | succ n ih =>
            intro i2 y hi2 hy9 hm H locs ls hW hl
            have ih_38 := ih
            refine lv_iload_n hx hb dX5_digest_38 rfl (lv_at hl 0 rfl) ?_
            refine lv_sipush (v := nI 290) hx hb dX5_digest_39 (by decide) ?_
            refine lv_iconst (v := nI 1) hx hb dX5_digest_42 (by decide) ?_
            refine lv_aload_n hx hb dX5_digest_43 rfl (lv_at hl 2 rfl) ?_
            refine z_get (C := RX5) (T := TX5) (N := 17) hx hb hts mw_X5_digest_1 hown hX hW 0 rfl rfl 4 (by decide) mw_X5_digest_3 (fun _ h9 => h9) rfl dX5_digest_44 ?_
            refine lv_iadd hx hb dX5_digest_47 ?_
            refine zw_topi (nI_add _ _) ?_
            refine lv_imul hx hb dX5_digest_48 ?_
            refine zw_topi (pk_mul _ _) ?_
            refine zn_icmp_ge (tgt := 72) (a := i2) (b := (290 * (1 + np))) hx hb (by omega) (by omega) dX5_digest_49 (by decide) (fun c_49 => ?_) (fun c_49 => ?_)
            · refine lv_iconst (v := nI 0) hx hb dX5_digest_72 (by decide) ?_
              refine lv_istore_n (lv' := [(3, .int (nI 0)), (1, .long y), (0, .ref o0)]) hx hb dX5_digest_73 rfl hl (by decide) rfl (fun ls hl => ?_)
              have loop_74 : ∀ (n : Nat) (j : Nat) (z : Int64), (j ≤ np) → (z = d3S (d2S (dg (d1S dy me co S np ca br ml 8) S 290) F np) F G pn j) → (np - j < n) → ∀ (H : Heap) (locs : List Loc) (ls : Array Slot), zW Z s A [(o0, .inr (5, [.int (nI 0), .int dy, .int me, .int co, .int (nI np), .int ca, .int br, .int ml, .ref o1, .ref o2, .ref o3, .ref o4, .ref o5, .ref o6, .int le, .ref o7, .ref o8])), (o1, zI Z 3770 (stF S F G)), (o2, zI Z 6 (qF pn 0)), (o3, zI Z 6 (qF pn 1)), (o4, zI Z 6 (qF pn 2)), (o5, zI Z 6 (qF pn 3)), (o6, zI Z 6 E), (o7, zI Z 29 Tk), (o8, zI Z 29 Lf)] H locs → lv_has ls 5 [(3, .int (nI j)), (1, .long z), (0, .ref o0)] → W p l e rm_X5_digest s m ([.ref o0] : List Value).toArray below meth c H locs (8 + 7 * j) (64 + 49 * j) (MQ below (zQl Z (po_X5_digest Z o0 o1 o2 o3 o4 o5 o6 o7 o8 np th dy me co ca br ml le S E Tk Lf F G pn) (wp_X5_digest Z o0 o1 o2 o3 o4 o5 o6 o7 o8 np th dy me co ca br ml le S E Tk Lf F G pn) A) ([.ref o0] : List Value).toArray s 50 358 A) (F0 m 74 ls []) := by
                intro n
                induction n with
                | zero =>
                  intro j z hj hz9 hm
                  exact absurd hm (Nat.not_lt_zero _)
                | succ n ih =>
                  intro j z hj hz9 hm H locs ls hW hl
                  have ih_74 := ih
                  refine lv_iload_n hx hb dX5_digest_74 rfl (lv_at hl 0 rfl) ?_
                  refine lv_aload_n hx hb dX5_digest_75 rfl (lv_at hl 2 rfl) ?_
                  refine z_get (C := RX5) (T := TX5) (N := 17) hx hb hts mw_X5_digest_1 hown hX hW 0 rfl rfl 4 (by decide) mw_X5_digest_3 (fun _ h9 => h9) rfl dX5_digest_76 ?_
                  refine zn_icmp_ge (tgt := 119) (a := j) (b := np) hx hb (by omega) (by omega) dX5_digest_79 (by decide) (fun c_79 => ?_) (fun c_79 => ?_)
                  · refine lv_lload_n hx hb dX5_digest_119 rfl (lv_at hl 1 rfl) ?_
                    exact z_lret hx hb hr hlk hW (nI 0) (by unfold po_X5_digest; exact ⟨rfl, by rw [hz9, show j = np by omega]⟩) (rfl) (by omega) (by omega) dX5_digest_120
                  · refine lv_iconst (v := nI 0) hx hb dX5_digest_82 (by decide) ?_
                    refine lv_istore (lv' := [(4, .int (nI 0)), (3, .int (nI j)), (1, .long z), (0, .ref o0)]) hx hb dX5_digest_83 hl (by decide) rfl (fun ls hl => ?_)
                    have loop_85 : ∀ (n : Nat) (w : Nat) (x : Int64), (w ≤ 7) → (x = pdg (d3S (d2S (dg (d1S dy me co S np ca br ml 8) S 290) F np) F G pn j) (F j) (G j) (q4 (pn j 0) (pn j 1) (pn j 2) (pn j 3)) w) → (7 - w < n) → ∀ (H : Heap) (locs : List Loc) (ls : Array Slot), zW Z s A [(o0, .inr (5, [.int (nI 0), .int dy, .int me, .int co, .int (nI np), .int ca, .int br, .int ml, .ref o1, .ref o2, .ref o3, .ref o4, .ref o5, .ref o6, .int le, .ref o7, .ref o8])), (o1, zI Z 3770 (stF S F G)), (o2, zI Z 6 (qF pn 0)), (o3, zI Z 6 (qF pn 1)), (o4, zI Z 6 (qF pn 2)), (o5, zI Z 6 (qF pn 3)), (o6, zI Z 6 E), (o7, zI Z 29 Tk), (o8, zI Z 29 Lf)] H locs → lv_has ls 5 [(4, .int (nI w)), (3, .int (nI j)), (1, .long x), (0, .ref o0)] → W p l e rm_X5_digest s m ([.ref o0] : List Value).toArray below meth c H locs (8 + 7 * j + w) (64 + 49 * j + 7 * w) (MQ below (zQl Z (po_X5_digest Z o0 o1 o2 o3 o4 o5 o6 o7 o8 np th dy me co ca br ml le S E Tk Lf F G pn) (wp_X5_digest Z o0 o1 o2 o3 o4 o5 o6 o7 o8 np th dy me co ca br ml le S E Tk Lf F G pn) A) ([.ref o0] : List Value).toArray s 50 358 A) (F0 m 85 ls []) := by
                      intro n
                      induction n with
                      | zero =>
                        intro w x hw hx9 hm
                        exact absurd hm (Nat.not_lt_zero _)
                      | succ n ih =>
                        intro w x hw hx9 hm H locs ls hW hl
                        have ih_85 := ih
                        refine lv_iload hx hb dX5_digest_85 (lv_at hl 0 rfl) ?_
                        refine lv_bipush (v := nI 6) hx hb dX5_digest_87 (by decide) ?_
                        refine zn_icmp_gt (tgt := 113) (a := w) (b := 6) hx hb (by omega) (by omega) dX5_digest_89 (by decide) (fun c_89 => ?_) (fun c_89 => ?_)
                        · refine lv_iinc (v := nI (j + 1)) (lv' := [(3, .int (nI (j + 1))), (4, .int (nI w)), (1, .long x), (0, .ref o0)]) hx hb dX5_digest_113 hl (k := 1) rfl (zinc1 _) (by decide) rfl (fun ls hl => ?_)
                          refine lv_goto (tgt := 74) hx hb dX5_digest_116 (by decide) ?_
                          have hl : lv_has ls 5 [(3, .int (nI (j + 1))), (1, .long x), (0, .ref o0)] := lv_sub hl [0, 2, 3] rfl
                          refine W.widen (k := (8 + 7 * (j + 1))) (n := (64 + 49 * (j + 1))) (by omega) (by omega) ?_
                          exact ih_74 (j + 1) x (by omega) (by rw [hx9, show w = 7 by omega]; rfl) (by omega) _ _ _ hW hl
                        · refine lv_lload_n hx hb dX5_digest_92 rfl (lv_at hl 2 rfl) ?_
                          refine lv_ldc2 (own := RX5) (v := 31) hx hb hown (hts _ mw_X5_digest_4) dX5_digest_93 ?_
                          refine lv_lmul hx hb dX5_digest_96 ?_
                          refine lv_aload_n hx hb dX5_digest_97 rfl (lv_at hl 3 rfl) ?_
                          refine lv_iload_n hx hb dX5_digest_98 rfl (lv_at hl 1 rfl) ?_
                          refine lv_iload hx hb dX5_digest_99 (lv_at hl 0 rfl) ?_
                          refine zc_i (va_runV (As := [.int (nI j), .int (nI w)]) (rest := [.long (x * 31)]) hC (c_X5_told l Z o0 o1 o2 o3 o4 o5 o6 o7 o8 np (nI 0) dy me co ca br ml le (stF S F G) (qF pn 0) (qF pn 1) (qF pn 2) (qF pn 3) j w (by omega) (by omega) _) (cwV 2 hts gX5_digest_X5_told rfl rfl rfl (by decide +kernel) ⟨Nat.le_of_ble_eq_true rfl, Nat.le_of_ble_eq_true rfl⟩) (zpreV (ci := 5) (q0 := 0) hX hW rfl rfl [0, 1, 2, 3, 4, 5] rfl (by decide)) rfl rfl hl.1 rfl (lv_room (Nat.le_of_ble_eq_true rfl)) dX5_digest_101 ⟨by first | (show (_ : Nat) ≤ 50; omega) | (show (_ : Nat) ≤ 358; omega), by first | (show (_ : Nat) ≤ 50; omega) | (show (_ : Nat) ≤ 358; omega)⟩) hX hW [0, 1, 2, 3, 4, 5] rfl (by decide) (fun _ => rfl) (fun r_101 u_101 H locs h_101 hW => ?_)
                          have hW : zW Z s A [(o0, .inr (5, [.int (nI 0), .int dy, .int me, .int co, .int (nI np), .int ca, .int br, .int ml, .ref o1, .ref o2, .ref o3, .ref o4, .ref o5, .ref o6, .int le, .ref o7, .ref o8])), (o1, zI Z 3770 (stF S F G)), (o2, zI Z 6 (qF pn 0)), (o3, zI Z 6 (qF pn 1)), (o4, zI Z 6 (qF pn 2)), (o5, zI Z 6 (qF pn 3)), (o6, zI Z 6 E), (o7, zI Z 29 Tk), (o8, zI Z 29 Lf)] _ _ := hW
                          subst h_101
                          refine zw_topi (y := (nmb (F j) (G j) (q4 (pn j 0) (pn j 1) (pn j 2) (pn j 3)) w)) (by rw [sh_F (by omega) (hG.2.1 _), sh_G (by omega) (hG.2.2.1 _)]; rfl) ?_
                          refine lv_i2l (v := (nmb (F j) (G j) (q4 (pn j 0) (pn j 1) (pn j 2) (pn j 3)) w).toInt64) hx hb dX5_digest_104 rfl ?_
                          refine lv_ladd hx hb dX5_digest_105 ?_
                          refine lv_lstore_n (lv' := [(1, .long ((x * 31) + ((nmb (F j) (G j) (q4 (pn j 0) (pn j 1) (pn j 2) (pn j 3)) w).toInt64))), (4, .int (nI w)), (3, .int (nI j)), (0, .ref o0)]) hx hb dX5_digest_106 rfl hl (by decide) rfl (fun ls hl => ?_)
                          refine lv_iinc (v := nI (w + 1)) (lv' := [(4, .int (nI (w + 1))), (1, .long ((x * 31) + ((nmb (F j) (G j) (q4 (pn j 0) (pn j 1) (pn j 2) (pn j 3)) w).toInt64))), (3, .int (nI j)), (0, .ref o0)]) hx hb dX5_digest_107 hl (k := 1) rfl (zinc1 _) (by decide) rfl (fun ls hl => ?_)
                          refine lv_goto (tgt := 85) hx hb dX5_digest_110 (by decide) ?_
                          have hl : lv_has ls 5 [(4, .int (nI (w + 1))), (3, .int (nI j)), (1, .long ((x * 31) + ((nmb (F j) (G j) (q4 (pn j 0) (pn j 1) (pn j 2) (pn j 3)) w).toInt64))), (0, .ref o0)] := lv_sub hl [0, 2, 1, 3] rfl
                          refine W.widen (k := (8 + 7 * j + (w + 1))) (n := (64 + 49 * j + 7 * (w + 1))) (by omega) (by omega) ?_
                          exact ih_85 (w + 1) ((x * 31) + ((nmb (F j) (G j) (q4 (pn j 0) (pn j 1) (pn j 2) (pn j 3)) w).toInt64)) (by omega) (by rw [hx9]; rfl) (by omega) _ _ _ hW hl
                    have hl : lv_has ls 5 [(4, .int (nI 0)), (3, .int (nI j)), (1, .long z), (0, .ref o0)] := lv_sub hl [0, 1, 2, 3] rfl
                    refine W.widen (k := (8 + 7 * j + 0)) (n := (64 + 49 * j + 7 * 0)) (by omega) (by omega) ?_
                    exact loop_85 _ 0 z (by omega) (by rw [hz9]; rfl) (Nat.lt_succ_self _) _ _ _ hW hl
              have hl : lv_has ls 5 [(3, .int (nI 0)), (1, .long y), (0, .ref o0)] := lv_sub hl [0, 1, 2] rfl
              refine W.widen (k := (8 + 7 * 0)) (n := (64 + 49 * 0)) (by omega) (by omega) ?_
              exact loop_74 _ 0 y (by omega) (by rw [hy9, show i2 = 290 * (1 + np) by omega, dg_d2 _ S F G np (by omega)]; rfl) (Nat.lt_succ_self _) _ _ _ hW hl
            · refine lv_lload_n hx hb dX5_digest_52 rfl (lv_at hl 1 rfl) ?_
              refine lv_ldc2 (own := RX5) (v := 31) hx hb hown (hts _ mw_X5_digest_4) dX5_digest_53 ?_
              refine lv_lmul hx hb dX5_digest_56 ?_
              refine lv_aload_n hx hb dX5_digest_57 rfl (lv_at hl 2 rfl) ?_
              refine z_get (C := RX5) (T := TX5) (N := 17) hx hb hts mw_X5_digest_1 hown hX hW 0 rfl rfl 8 (by decide) mw_X5_digest_5 (fun _ h9 => h9) rfl dX5_digest_58 ?_
              refine lv_iload_n hx hb dX5_digest_61 rfl (lv_at hl 0 rfl) ?_
              refine z_iald hx hb hX hW 1 rfl (k := i2) (by omega) (by omega) dX5_digest_62 ?_
              refine lv_i2l (v := ((stF S F G) i2).toInt64) hx hb dX5_digest_63 rfl ?_
              refine lv_ladd hx hb dX5_digest_64 ?_
              refine lv_lstore_n (lv' := [(1, .long ((y * 31) + (((stF S F G) i2).toInt64))), (3, .int (nI i2)), (0, .ref o0)]) hx hb dX5_digest_65 rfl hl (by decide) rfl (fun ls hl => ?_)
              refine lv_iinc (v := nI (i2 + 1)) (lv' := [(3, .int (nI (i2 + 1))), (1, .long ((y * 31) + (((stF S F G) i2).toInt64))), (0, .ref o0)]) hx hb dX5_digest_66 hl (k := 1) rfl (zinc1 _) (by decide) rfl (fun ls hl => ?_)
              refine lv_goto (tgt := 38) hx hb dX5_digest_69 (by decide) ?_
              have hl : lv_has ls 5 [(3, .int (nI (i2 + 1))), (1, .long ((y * 31) + (((stF S F G) i2).toInt64))), (0, .ref o0)] := lv_sub hl [0, 1, 2] rfl
              refine W.widen (k := 8) (n := 64) (by omega) (by omega) ?_
              exact ih_38 (i2 + 1) ((y * 31) + (((stF S F G) i2).toInt64)) (by omega) (by rw [hy9]; rfl) (by omega) _ _ _ hW hl
        have hl : lv_has ls 5 [(3, .int (nI 0)), (1, .long (d1S dy me co S np ca br ml i)), (0, .ref o0)] := lv_sub hl [0, 1, 2] rfl
        refine W.widen (k := 8) (n := 64) (by omega) (by omega) ?_
        exact loop_38 _ 0 (d1S dy me co S np ca br ml i) (by omega) (by rw [show i = 8 by omega]; rfl) (Nat.lt_succ_self _) _ _ _ hW hl
      · refine lv_lload_n hx hb dX5_digest_17 rfl (lv_at hl 1 rfl) ?_
        refine lv_ldc2 (own := RX5) (v := 31) hx hb hown (hts _ mw_X5_digest_4) dX5_digest_18 ?_
        refine lv_lmul hx hb dX5_digest_21 ?_
        refine lv_aload_n hx hb dX5_digest_22 rfl (lv_at hl 2 rfl) ?_
        refine lv_iload_n hx hb dX5_digest_23 rfl (lv_at hl 0 rfl) ?_
        refine zc_i (va_runV (As := [.int (nI i)]) (rest := [.long ((d1S dy me co S np ca br ml i) * 31)]) hC (c_X5_counted l Z o0 o1 o2 o3 o4 o5 o6 o7 o8 np (nI 0) dy me co ca br ml le (stF S F G) i (by omega) _) (cwV 1 hts gX5_digest_X5_counted rfl rfl rfl (by decide +kernel) ⟨Nat.le_of_ble_eq_true rfl, Nat.le_of_ble_eq_true rfl⟩) (zpreV (ci := 5) (q0 := 0) hX hW rfl rfl [0, 1] rfl (by decide)) rfl rfl hl.1 rfl (lv_room (Nat.le_of_ble_eq_true rfl)) dX5_digest_24 ⟨by first | (show (_ : Nat) ≤ 50; omega) | (show (_ : Nat) ≤ 358; omega), by first | (show (_ : Nat) ≤ 50; omega) | (show (_ : Nat) ≤ 358; omega)⟩) hX hW [0, 1] rfl (by decide) (fun _ => rfl) (fun r_24 u_24 H locs h_24 hW => ?_)
        have hW : zW Z s A [(o0, .inr (5, [.int (nI 0), .int dy, .int me, .int co, .int (nI np), .int ca, .int br, .int ml, .ref o1, .ref o2, .ref o3, .ref o4, .ref o5, .ref o6, .int le, .ref o7, .ref o8])), (o1, zI Z 3770 (stF S F G)), (o2, zI Z 6 (qF pn 0)), (o3, zI Z 6 (qF pn 1)), (o4, zI Z 6 (qF pn 2)), (o5, zI Z 6 (qF pn 3)), (o6, zI Z 6 E), (o7, zI Z 29 Tk), (o8, zI Z 29 Lf)] _ _ := hW
        subst h_24
        refine zw_topi (y := (cnt dy me co S np ca br ml i)) (by rw [sh_S hG.1]) ?_
        refine lv_i2l (v := (cnt dy me co S np ca br ml i).toInt64) hx hb dX5_digest_27 rfl ?_
        refine lv_ladd hx hb dX5_digest_28 ?_
        refine lv_lstore_n (lv' := [(1, .long (((d1S dy me co S np ca br ml i) * 31) + ((cnt dy me co S np ca br ml i).toInt64))), (3, .int (nI i)), (0, .ref o0)]) hx hb dX5_digest_29 rfl hl (by decide) rfl (fun ls hl => ?_)
        refine lv_iinc (v := nI (i + 1)) (lv' := [(3, .int (nI (i + 1))), (1, .long (((d1S dy me co S np ca br ml i) * 31) + ((cnt dy me co S np ca br ml i).toInt64))), (0, .ref o0)]) hx hb dX5_digest_30 hl (k := 1) rfl (zinc1 _) (by decide) rfl (fun ls hl => ?_)
        refine lv_goto (tgt := 11) hx hb dX5_digest_33 (by decide) ?_
        have hl : lv_has ls 5 [(3, .int (nI (i + 1))), (1, .long (d1S dy me co S np ca br ml (i + 1))), (0, .ref o0)] := lv_sub hl [0, 1, 2] rfl
        refine W.widen (k := (i + 1)) (n := (8 * (i + 1))) (by omega) (by omega) ?_
        exact ih_11 (i + 1) (by omega) (by omega) _ _ _ hW hl
  have hl : lv_has ls 5 [(3, .int (nI 0)), (1, .long (d1S dy me co S np ca br ml 0)), (0, .ref o0)] := lv_sub hl [0, 1, 2] rfl
  refine W.widen (k := 0) (n := (8 * 0)) (by omega) (by omega) ?_
  exact loop_11 _ 0 (by omega) (Nat.lt_succ_self _) _ _ _ hW hl
