theorem mw_X5_melt_0 : Cond.fieldLink RX5 38 "TypeFoundryModel" "thrown" "I" ∈ wsX5_melt := by decide +kernel
theorem mw_X5_melt_1 : ∀ w ∈ wsX50, w ∈ wsX5_melt := by decide +kernel
theorem mw_X5_melt_2 : Cond.fieldLink RX5 7 "TypeFoundryModel" "metal" "I" ∈ wsX5_melt := by decide +kernel
theorem mw_X5_melt_3 : Cond.fieldLink RX5 71 "TypeFoundryModel" "melted" "I" ∈ wsX5_melt := by decide +kernel
theorem mw_X5_melt_4 : Cond.fieldLink RX5 13 "TypeFoundryModel" "store" "[I" ∈ wsX5_melt := by decide +kernel
abbrev wp_X5_melt (Z : zT) (o0 o1 o2 o3 o4 o5 o6 o7 o8 np : Nat) (th dy me co ca br ml le : Int32) (S E Tk Lf : Nat → Int32) (F G pn : Nat → Nat → Int32) (wv : Int32) : Int32 × Int32 × Int32 × (Nat → Int32) → va_W := fun (u : Int32 × Int32 × Int32 × (Nat → Int32)) => match u with | (th_1, me_1, ml_1, f_1) => [(o0, .inr (5, [.int th_1, .int dy, .int me_1, .int co, .int (nI np), .int ca, .int br, .int ml_1, .ref o1, .ref o2, .ref o3, .ref o4, .ref o5, .ref o6, .int le, .ref o7, .ref o8])), (o1, zI Z 3770 f_1), (o2, zI Z 6 (qF pn 0)), (o3, zI Z 6 (qF pn 1)), (o4, zI Z 6 (qF pn 2)), (o5, zI Z 6 (qF pn 3)), (o6, zI Z 6 E), (o7, zI Z 29 Tk), (o8, zI Z 29 Lf)]
abbrev po_X5_melt (Z : zT) (o0 o1 o2 o3 o4 o5 o6 o7 o8 np : Nat) (th dy me co ca br ml le : Int32) (S E Tk Lf : Nat → Int32) (F G pn : Nat → Nat → Int32) (wv : Int32) : Int32 → Int32 × Int32 × Int32 × (Nat → Int32) → Prop := fun (r : Int32) (u : Int32 × Int32 × Int32 × (Nat → Int32)) => match u with | (th_1, me_1, ml_1, f_1) => (th_1 = nI 0 ∧ 0 = cdx (¬ isT wv) (¬ me + mf S (sn wv) 290 ≤ nI 9999) (False) ∧ r = cf S (sn wv) 290 ∧ me_1 = me + mf S (sn wv) 290 ∧ ml_1 = ml + cf S (sn wv) 290 ∧ f_1 = stF (df S (sn wv) 290) F G) ∨ (∃ k9, 1 ≤ k9 ∧ k9 = cdx (¬ isT wv) (¬ me + mf S (sn wv) 290 ≤ nI 9999) (False) ∧ th_1 = nI k9 ∧ me_1 = me ∧ ml_1 = ml ∧ f_1 = stF S F G)
abbrev rm_X5_melt : Room := { frames := 1, cells := 0, slots := 0, locals := 22 }
set_option maxHeartbeats 4000000 in
set_option maxRecDepth 100000 in
theorem c_X5_melt (l : Launch) (Z : zT) (o0 o1 o2 o3 o4 o5 o6 o7 o8 np : Nat) (th dy me co ca br ml le : Int32) (S E Tk Lf : Nat → Int32) (F G pn : Nat → Nat → Int32) (wv : Int32) (hG : GA S F G) (hnp : np ≤ 6) : zMet l yX5_melt wsX5_melt rm_X5_melt [.ref o0, .int wv] Z [(o0, .inr (5, [.int th, .int dy, .int me, .int co, .int (nI np), .int ca, .int br, .int ml, .ref o1, .ref o2, .ref o3, .ref o4, .ref o5, .ref o6, .int le, .ref o7, .ref o8])), (o1, zI Z 3770 (stF S F G)), (o2, zI Z 6 (qF pn 0)), (o3, zI Z 6 (qF pn 1)), (o4, zI Z 6 (qF pn 2)), (o5, zI Z 6 (qF pn 3)), (o6, zI Z 6 E), (o7, zI Z 29 Tk), (o8, zI Z 29 Lf)] (zQi Z (po_X5_melt Z o0 o1 o2 o3 o4 o5 o6 o7 o8 np th dy me co ca br ml le S E Tk Lf F G pn wv) (wp_X5_melt Z o0 o1 o2 o3 o4 o5 o6 o7 o8 np th dy me co ca br ml le S E Tk Lf F G pn wv)) 0 0 := by
  refine zstart (cc := cX5_melt) (maxL := 5) (ret := (some .int)) (by decide) rfl (Nat.le_of_ble_eq_true rfl) ?_
  intro p e s m below meth c ls A hx hb hr hC hlk hnm hX hW hl
  have hml := hC.2.2.1
  have hown : s.vm.findClass RX5 = some m.cls := hC.2.2.2.1
  have hts := hC.2.2.2.2
  have hl : lv_has ls 5 [(0, .ref o0), (1, .int wv)] := hl
  refine lv_aload_n hx hb dX5_melt_0 rfl (lv_at hl 0 rfl) ?_
  refine lv_iconst (v := nI 0) hx hb dX5_melt_1 (by decide) ?_
  refine z_put (C := RX5) (T := TX5) (N := 17) (v := .int (nI 0)) (ty := .int) hx hb hts mw_X5_melt_1 tyX5 tyX5_ok nmX5 hown hX hW 0 rfl rfl 0 (by decide) mw_X5_melt_0 (fun _ h9 => h9) rfl (by decide +kernel) rfl rfl (Nat.le_of_ble_eq_true rfl) dX5_melt_2 (fun H locs hW => ?_)
  have hW : zW Z s A [(o0, .inr (5, [.int (nI 0), .int dy, .int me, .int co, .int (nI np), .int ca, .int br, .int ml, .ref o1, .ref o2, .ref o3, .ref o4, .ref o5, .ref o6, .int le, .ref o7, .ref o8])), (o1, zI Z 3770 (stF S F G)), (o2, zI Z 6 (qF pn 0)), (o3, zI Z 6 (qF pn 1)), (o4, zI Z 6 (qF pn 2)), (o5, zI Z 6 (qF pn 3)), (o6, zI Z 6 E), (o7, zI Z 29 Tk), (o8, zI Z 29 Lf)] _ _ := hW
  refine lv_iload_n hx hb dX5_melt_5 rfl (lv_at hl 1 rfl) ?_
  refine lv_iconst (v := nI 1) hx hb dX5_melt_6 (by decide) ?_
  refine lv_bipush (v := nI 9) hx hb dX5_melt_7 (by decide) ?_
  refine zc_i (va_runS (As := [.int wv, .int (nI 1), .int (nI 9)]) (rest := []) hC (c_X5_isIn l Z wv (nI 1) (nI 9)  _) (va_cwS 3 hts gX5_melt_X5_isIn rfl rfl rfl (by decide +kernel) ⟨Nat.le_of_ble_eq_true rfl, Nat.le_of_ble_eq_true rfl⟩) (zpreS hX hW [] rfl (by decide)) rfl rfl hl.1 rfl (lv_room (Nat.le_of_ble_eq_true rfl)) dX5_melt_9 ⟨Nat.le_of_ble_eq_true rfl, Nat.le_of_ble_eq_true rfl⟩) hX hW [] rfl (by decide) (fun _ => rfl) (fun r_9 u_9 H locs h_9 hW => ?_)
  have hW : zW Z s A [(o0, .inr (5, [.int (nI 0), .int dy, .int me, .int co, .int (nI np), .int ca, .int br, .int ml, .ref o1, .ref o2, .ref o3, .ref o4, .ref o5, .ref o6, .int le, .ref o7, .ref o8])), (o1, zI Z 3770 (stF S F G)), (o2, zI Z 6 (qF pn 0)), (o3, zI Z 6 (qF pn 1)), (o4, zI Z 6 (qF pn 2)), (o5, zI Z 6 (qF pn 3)), (o6, zI Z 6 E), (o7, zI Z 29 Tk), (o8, zI Z 29 Lf)] _ _ := hW
  subst h_9
  refine lv_if_ne (tgt := 21) hx hb dX5_melt_12 (by decide) (fun c_12 => ?_) (fun c_12 => ?_)
  · have hT9 : isT wv := isT_iff.mp (bI_n c_12)
    have hT8 := hT9.1
    have hl : lv_has ls 5 [(0, .ref o0), (1, .int (nI (sn wv)))] := by rw [← hT9.2]; exact hl
    refine lv_iconst (v := nI 0) hx hb dX5_melt_21 (by decide) ?_
    refine lv_istore_n (lv' := [(2, .int (nI 0)), (0, .ref o0), (1, .int (nI (sn wv)))]) hx hb dX5_melt_22 rfl hl (by decide) rfl (fun ls hl => ?_)
    refine lv_iconst (v := nI 0) hx hb dX5_melt_23 (by decide) ?_
    refine lv_istore_n (lv' := [(3, .int (nI 0)), (2, .int (nI 0)), (0, .ref o0), (1, .int (nI (sn wv)))]) hx hb dX5_melt_24 rfl hl (by decide) rfl (fun ls hl => ?_)
    refine lv_iconst (v := nI 0) hx hb dX5_melt_25 (by decide) ?_
    refine lv_istore (lv' := [(4, .int (nI 0)), (3, .int (nI 0)), (2, .int (nI 0)), (0, .ref o0), (1, .int (nI (sn wv)))]) hx hb dX5_melt_26 hl (by decide) rfl (fun ls hl => ?_)
    have loop_28 : ∀ (n : Nat) (j : Nat) (x : Int32) (y : Int32), (j ≤ 290) → (x = mf S (sn wv) j) → (y = cf S (sn wv) j) → (290 - j < n) → ∀ (H : Heap) (locs : List Loc) (ls : Array Slot), zW Z s A [(o0, .inr (5, [.int (nI 0), .int dy, .int me, .int co, .int (nI np), .int ca, .int br, .int ml, .ref o1, .ref o2, .ref o3, .ref o4, .ref o5, .ref o6, .int le, .ref o7, .ref o8])), (o1, zI Z 3770 (stF S F G)), (o2, zI Z 6 (qF pn 0)), (o3, zI Z 6 (qF pn 1)), (o4, zI Z 6 (qF pn 2)), (o5, zI Z 6 (qF pn 3)), (o6, zI Z 6 E), (o7, zI Z 29 Tk), (o8, zI Z 29 Lf)] H locs → lv_has ls 5 [(4, .int (nI j)), (3, .int y), (2, .int x), (0, .ref o0), (1, .int (nI (sn wv)))] → W p l e rm_X5_melt s m ([.ref o0, .int wv] : List Value).toArray below meth c H locs 0 0 (MQ below (zQi Z (po_X5_melt Z o0 o1 o2 o3 o4 o5 o6 o7 o8 np th dy me co ca br ml le S E Tk Lf F G pn wv) (wp_X5_melt Z o0 o1 o2 o3 o4 o5 o6 o7 o8 np th dy me co ca br ml le S E Tk Lf F G pn wv) A) ([.ref o0, .int wv] : List Value).toArray s 0 0 A) (F0 m 28 ls []) := by
      intro n
      induction n with
      | zero =>
        intro j x y hj hx9 hy9 hm
        exact absurd hm (Nat.not_lt_zero _)
      | succ n ih =>
        intro j x y hj hx9 hy9 hm H locs ls hW hl
        have ih_28 := ih
        refine lv_iload hx hb dX5_melt_28 (lv_at hl 0 rfl) ?_
        refine lv_sipush (v := nI 290) hx hb dX5_melt_30 (by decide) ?_
        refine zn_icmp_ge (tgt := 85) (a := j) (b := 290) hx hb (by omega) (by omega) dX5_melt_33 (by decide) (fun c_33 => ?_) (fun c_33 => ?_)
        · have hx8 : x = mf S (sn wv) 290 := by rw [hx9, show j = 290 by omega]
          have hy8 : y = cf S (sn wv) 290 := by rw [hy9, show j = 290 by omega]
          have hl : lv_has ls 5 [(4, .int (nI j)), (3, .int (cf S (sn wv) 290)), (2, .int (mf S (sn wv) 290)), (0, .ref o0), (1, .int (nI (sn wv)))] := by rw [← hx8, ← hy8]; exact hl
          refine lv_aload_n hx hb dX5_melt_85 rfl (lv_at hl 3 rfl) ?_
          refine z_get (C := RX5) (T := TX5) (N := 17) hx hb hts mw_X5_melt_1 hown hX hW 0 rfl rfl 2 (by decide) mw_X5_melt_2 (fun _ h9 => h9) rfl dX5_melt_86 ?_
          refine lv_iload_n hx hb dX5_melt_89 rfl (lv_at hl 2 rfl) ?_
          refine lv_iadd hx hb dX5_melt_90 ?_
          refine lv_sipush (v := nI 9999) hx hb dX5_melt_91 (by decide) ?_
          refine lv_icmp_le (tgt := 103) hx hb dX5_melt_94 (by decide) (fun c_94 => ?_) (fun c_94 => ?_)
          · refine lv_iconst (v := nI 0) hx hb dX5_melt_103 (by decide) ?_
            refine lv_istore (lv' := [(4, .int (nI 0)), (3, .int (cf S (sn wv) 290)), (2, .int (mf S (sn wv) 290)), (0, .ref o0), (1, .int (nI (sn wv)))]) hx hb dX5_melt_104 hl (by decide) rfl (fun ls hl => ?_)
            have loop_106 : ∀ (n : Nat) (d : Nat) (K : Nat → Int32), (d ≤ 290) → (K = stF (df S (sn wv) d) F G) → (290 - d < n) → ∀ (H : Heap) (locs : List Loc) (ls : Array Slot), zW Z s A [(o0, .inr (5, [.int (nI 0), .int dy, .int me, .int co, .int (nI np), .int ca, .int br, .int ml, .ref o1, .ref o2, .ref o3, .ref o4, .ref o5, .ref o6, .int le, .ref o7, .ref o8])), (o1, zI Z 3770 K), (o2, zI Z 6 (qF pn 0)), (o3, zI Z 6 (qF pn 1)), (o4, zI Z 6 (qF pn 2)), (o5, zI Z 6 (qF pn 3)), (o6, zI Z 6 E), (o7, zI Z 29 Tk), (o8, zI Z 29 Lf)] H locs → lv_has ls 5 [(4, .int (nI d)), (3, .int (cf S (sn wv) 290)), (2, .int (mf S (sn wv) 290)), (0, .ref o0), (1, .int (nI (sn wv)))] → W p l e rm_X5_melt s m ([.ref o0, .int wv] : List Value).toArray below meth c H locs 0 0 (MQ below (zQi Z (po_X5_melt Z o0 o1 o2 o3 o4 o5 o6 o7 o8 np th dy me co ca br ml le S E Tk Lf F G pn wv) (wp_X5_melt Z o0 o1 o2 o3 o4 o5 o6 o7 o8 np th dy me co ca br ml le S E Tk Lf F G pn wv) A) ([.ref o0, .int wv] : List Value).toArray s 0 0 A) (F0 m 106 ls []) := by
              intro n
              induction n with
              | zero =>
                intro d K hd hK hm
                exact absurd hm (Nat.not_lt_zero _)
              | succ n ih =>
                intro d K hd hK hm H locs ls hW hl
                have ih_106 := ih
                refine lv_iload hx hb dX5_melt_106 (lv_at hl 0 rfl) ?_
                refine lv_sipush (v := nI 290) hx hb dX5_melt_108 (by decide) ?_
                refine zn_icmp_ge (tgt := 137) (a := d) (b := 290) hx hb (by omega) (by omega) dX5_melt_111 (by decide) (fun c_111 => ?_) (fun c_111 => ?_)
                · refine lv_aload_n hx hb dX5_melt_137 rfl (lv_at hl 3 rfl) ?_
                  refine lv_dup hx hb dX5_melt_138 rfl ?_
                  refine z_get (C := RX5) (T := TX5) (N := 17) hx hb hts mw_X5_melt_1 hown hX hW 0 rfl rfl 2 (by decide) mw_X5_melt_2 (fun _ h9 => h9) rfl dX5_melt_139 ?_
                  refine lv_iload_n hx hb dX5_melt_142 rfl (lv_at hl 2 rfl) ?_
                  refine lv_iadd hx hb dX5_melt_143 ?_
                  refine z_put (C := RX5) (T := TX5) (N := 17) (v := .int (me + (mf S (sn wv) 290))) (ty := .int) hx hb hts mw_X5_melt_1 tyX5 tyX5_ok nmX5 hown hX hW 0 rfl rfl 2 (by decide) mw_X5_melt_2 (fun _ h9 => h9) rfl (by decide +kernel) rfl rfl (Nat.le_of_ble_eq_true rfl) dX5_melt_144 (fun H locs hW => ?_)
                  have hW : zW Z s A [(o0, .inr (5, [.int (nI 0), .int dy, .int (me + (mf S (sn wv) 290)), .int co, .int (nI np), .int ca, .int br, .int ml, .ref o1, .ref o2, .ref o3, .ref o4, .ref o5, .ref o6, .int le, .ref o7, .ref o8])), (o1, zI Z 3770 K), (o2, zI Z 6 (qF pn 0)), (o3, zI Z 6 (qF pn 1)), (o4, zI Z 6 (qF pn 2)), (o5, zI Z 6 (qF pn 3)), (o6, zI Z 6 E), (o7, zI Z 29 Tk), (o8, zI Z 29 Lf)] _ _ := hW
                  refine lv_aload_n hx hb dX5_melt_147 rfl (lv_at hl 3 rfl) ?_
                  refine lv_dup hx hb dX5_melt_148 rfl ?_
                  refine z_get (C := RX5) (T := TX5) (N := 17) hx hb hts mw_X5_melt_1 hown hX hW 0 rfl rfl 7 (by decide) mw_X5_melt_3 (fun _ h9 => h9) rfl dX5_melt_149 ?_
                  refine lv_iload_n hx hb dX5_melt_152 rfl (lv_at hl 1 rfl) ?_
                  refine lv_iadd hx hb dX5_melt_153 ?_
                  refine z_put (C := RX5) (T := TX5) (N := 17) (v := .int (ml + (cf S (sn wv) 290))) (ty := .int) hx hb hts mw_X5_melt_1 tyX5 tyX5_ok nmX5 hown hX hW 0 rfl rfl 7 (by decide) mw_X5_melt_3 (fun _ h9 => h9) rfl (by decide +kernel) rfl rfl (Nat.le_of_ble_eq_true rfl) dX5_melt_154 (fun H locs hW => ?_)
                  have hW : zW Z s A [(o0, .inr (5, [.int (nI 0), .int dy, .int (me + (mf S (sn wv) 290)), .int co, .int (nI np), .int ca, .int br, .int (ml + (cf S (sn wv) 290)), .ref o1, .ref o2, .ref o3, .ref o4, .ref o5, .ref o6, .int le, .ref o7, .ref o8])), (o1, zI Z 3770 K), (o2, zI Z 6 (qF pn 0)), (o3, zI Z 6 (qF pn 1)), (o4, zI Z 6 (qF pn 2)), (o5, zI Z 6 (qF pn 3)), (o6, zI Z 6 E), (o7, zI Z 29 Tk), (o8, zI Z 29 Lf)] _ _ := hW
                  refine lv_iload_n hx hb dX5_melt_157 rfl (lv_at hl 1 rfl) ?_
                  exact z_iret hx hb hr hlk hW (nI 0, me + (mf S (sn wv) 290), ml + (cf S (sn wv) 290), K) (by unfold po_X5_melt; exact Or.inl ⟨rfl, cdx_0 (fun h6 => h6 hT9) (fun h6 => h6 c_94) (fun h6 => h6), rfl, rfl, rfl, (by rw [hK, show d = 290 by omega])⟩) (rfl) (by omega) (by omega) dX5_melt_158
                · refine lv_iload hx hb dX5_melt_114 (lv_at hl 0 rfl) ?_
                  refine lv_bipush (v := nI 10) hx hb dX5_melt_116 (by decide) ?_
                  refine lv_irem hx hb dX5_melt_118 (by decide) ?_
                  refine zw_topi (pk_rem (by omega) (by omega) (by omega)) ?_
                  refine lv_iload_n hx hb dX5_melt_119 rfl (lv_at hl 4 rfl) ?_
                  refine zn_icmp_lt (tgt := 131) (a := (d % 10)) (b := (sn wv)) hx hb (by omega) (by omega) dX5_melt_120 (by decide) (fun c_120 => ?_) (fun c_120 => ?_)
                  · refine lv_iinc (v := nI (d + 1)) (lv' := [(4, .int (nI (d + 1))), (3, .int (cf S (sn wv) 290)), (2, .int (mf S (sn wv) 290)), (0, .ref o0), (1, .int (nI (sn wv)))]) hx hb dX5_melt_131 hl (k := 0) rfl (zinc1 _) (by decide) rfl (fun ls hl => ?_)
                    refine lv_goto (tgt := 106) hx hb dX5_melt_134 (by decide) ?_
                    have hl : lv_has ls 5 [(4, .int (nI (d + 1))), (3, .int (cf S (sn wv) 290)), (2, .int (mf S (sn wv) 290)), (0, .ref o0), (1, .int (nI (sn wv)))] := lv_sub hl [0, 1, 2, 3, 4] rfl
                    exact ih_106 (d + 1) K (by omega) (by subst hK; first | rw [df_t c_120] | rw [st_uS (by omega), df_n c_120]) (by omega) _ _ _ hW hl
                  · refine lv_aload_n hx hb dX5_melt_123 rfl (lv_at hl 3 rfl) ?_
                    refine z_get (C := RX5) (T := TX5) (N := 17) hx hb hts mw_X5_melt_1 hown hX hW 0 rfl rfl 8 (by decide) mw_X5_melt_4 (fun _ h9 => h9) rfl dX5_melt_124 ?_
                    refine lv_iload hx hb dX5_melt_127 (lv_at hl 0 rfl) ?_
                    refine lv_iconst (v := nI 0) hx hb dX5_melt_129 (by decide) ?_
                    refine z_iast hx hb hX hW 1 rfl (k := d) (by omega) (by omega) dX5_melt_130 (fun H locs hW => ?_)
                    have hW : zW Z s A [(o0, .inr (5, [.int (nI 0), .int dy, .int me, .int co, .int (nI np), .int ca, .int br, .int ml, .ref o1, .ref o2, .ref o3, .ref o4, .ref o5, .ref o6, .int le, .ref o7, .ref o8])), (o1, zI Z 3770 (upd K d (nI 0))), (o2, zI Z 6 (qF pn 0)), (o3, zI Z 6 (qF pn 1)), (o4, zI Z 6 (qF pn 2)), (o5, zI Z 6 (qF pn 3)), (o6, zI Z 6 E), (o7, zI Z 29 Tk), (o8, zI Z 29 Lf)] _ _ := hW
                    refine lv_iinc (v := nI (d + 1)) (lv' := [(4, .int (nI (d + 1))), (3, .int (cf S (sn wv) 290)), (2, .int (mf S (sn wv) 290)), (0, .ref o0), (1, .int (nI (sn wv)))]) hx hb dX5_melt_131 hl (k := 0) rfl (zinc1 _) (by decide) rfl (fun ls hl => ?_)
                    refine lv_goto (tgt := 106) hx hb dX5_melt_134 (by decide) ?_
                    have hl : lv_has ls 5 [(4, .int (nI (d + 1))), (3, .int (cf S (sn wv) 290)), (2, .int (mf S (sn wv) 290)), (0, .ref o0), (1, .int (nI (sn wv)))] := lv_sub hl [0, 1, 2, 3, 4] rfl
                    exact ih_106 (d + 1) (upd K d (nI 0)) (by omega) (by subst hK; first | rw [df_t c_120] | rw [st_uS (by omega), df_n c_120]) (by omega) _ _ _ hW hl
            have hl : lv_has ls 5 [(4, .int (nI 0)), (3, .int (cf S (sn wv) 290)), (2, .int (mf S (sn wv) 290)), (0, .ref o0), (1, .int (nI (sn wv)))] := lv_sub hl [0, 1, 2, 3, 4] rfl
            exact loop_106 _ 0 (stF S F G) (by omega) (by rw [df_0]) (Nat.lt_succ_self _) _ _ _ hW hl
          · refine lv_aload_n hx hb dX5_melt_97 rfl (lv_at hl 3 rfl) ?_
            refine lv_iconst (v := nI 2) hx hb dX5_melt_98 (by decide) ?_
            refine zc_i (va_runV (As := [.int (nI 2)]) (rest := []) hC (c_X5_no l Z o0 o1 o2 o3 o4 o5 o6 o7 o8 np (nI 0) dy me co ca br ml le 2  _) (cwV 1 hts gX5_melt_X5_no rfl rfl rfl (by decide +kernel) ⟨Nat.le_of_ble_eq_true rfl, Nat.le_of_ble_eq_true rfl⟩) (zpreV (ci := 5) (q0 := 0) hX hW rfl rfl [0] rfl (by decide)) rfl rfl hl.1 rfl (lv_room (Nat.le_of_ble_eq_true rfl)) dX5_melt_99 ⟨Nat.le_of_ble_eq_true rfl, Nat.le_of_ble_eq_true rfl⟩) hX hW [0] rfl (by decide) (fun _ => rfl) (fun r_99 u_99 H locs h_99 hW => ?_)
            have hW : zW Z s A [(o0, .inr (5, [.int (nI 2), .int dy, .int me, .int co, .int (nI np), .int ca, .int br, .int ml, .ref o1, .ref o2, .ref o3, .ref o4, .ref o5, .ref o6, .int le, .ref o7, .ref o8])), (o1, zI Z 3770 (stF S F G)), (o2, zI Z 6 (qF pn 0)), (o3, zI Z 6 (qF pn 1)), (o4, zI Z 6 (qF pn 2)), (o5, zI Z 6 (qF pn 3)), (o6, zI Z 6 E), (o7, zI Z 29 Tk), (o8, zI Z 29 Lf)] _ _ := hW
            subst h_99
            exact z_iret hx hb hr hlk hW (nI 2, me, ml, stF S F G) (by unfold po_X5_melt; exact Or.inr ⟨2, by omega, cdx_2 (fun h6 => h6 hT9) c_94, rfl, rfl, rfl, rfl⟩) (rfl) (by omega) (by omega) dX5_melt_102
        · refine lv_iload hx hb dX5_melt_36 (lv_at hl 0 rfl) ?_
          refine lv_bipush (v := nI 10) hx hb dX5_melt_38 (by decide) ?_
          refine lv_irem hx hb dX5_melt_40 (by decide) ?_
          refine zw_topi (pk_rem (by omega) (by omega) (by omega)) ?_
          refine lv_iload_n hx hb dX5_melt_41 rfl (lv_at hl 4 rfl) ?_
          refine zn_icmp_ge (tgt := 48) (a := (j % 10)) (b := (sn wv)) hx hb (by omega) (by omega) dX5_melt_42 (by decide) (fun c_42 => ?_) (fun c_42 => ?_)
          · refine lv_iload_n hx hb dX5_melt_48 rfl (lv_at hl 1 rfl) ?_
            refine lv_aload_n hx hb dX5_melt_49 rfl (lv_at hl 3 rfl) ?_
            refine z_get (C := RX5) (T := TX5) (N := 17) hx hb hts mw_X5_melt_1 hown hX hW 0 rfl rfl 8 (by decide) mw_X5_melt_4 (fun _ h9 => h9) rfl dX5_melt_50 ?_
            refine lv_iload hx hb dX5_melt_53 (lv_at hl 0 rfl) ?_
            refine z_iald hx hb hX hW 1 rfl (k := j) (by omega) (by omega) dX5_melt_55 ?_
            refine zw_topi (y := (S j)) (stF_S (by omega)) ?_
            refine lv_iadd hx hb dX5_melt_56 ?_
            refine lv_istore_n (lv' := [(3, .int (y + (S j))), (4, .int (nI j)), (2, .int x), (0, .ref o0), (1, .int (nI (sn wv)))]) hx hb dX5_melt_57 rfl hl (by decide) rfl (fun ls hl => ?_)
            refine lv_iload_n hx hb dX5_melt_58 rfl (lv_at hl 2 rfl) ?_
            refine lv_aload_n hx hb dX5_melt_59 rfl (lv_at hl 3 rfl) ?_
            refine z_get (C := RX5) (T := TX5) (N := 17) hx hb hts mw_X5_melt_1 hown hX hW 0 rfl rfl 8 (by decide) mw_X5_melt_4 (fun _ h9 => h9) rfl dX5_melt_60 ?_
            refine lv_iload hx hb dX5_melt_63 (lv_at hl 1 rfl) ?_
            refine z_iald hx hb hX hW 1 rfl (k := j) (by omega) (by omega) dX5_melt_65 ?_
            refine zw_topi (y := (S j)) (stF_S (by omega)) ?_
            refine lv_iload hx hb dX5_melt_66 (lv_at hl 1 rfl) ?_
            refine lv_bipush (v := nI 10) hx hb dX5_melt_68 (by decide) ?_
            refine lv_idiv hx hb dX5_melt_70 (by decide) ?_
            refine zw_topi (pk_div (by omega) (by omega) (by omega)) ?_
            refine zc_i (va_runS (As := [.int (nI (j / 10))]) (rest := [.int (S j), .int x]) hC (c_X5_price l Z (j / 10) (by omega) _) (va_cwS 1 hts gX5_melt_X5_price rfl rfl rfl (by decide +kernel) ⟨Nat.le_of_ble_eq_true rfl, Nat.le_of_ble_eq_true rfl⟩) (zpreS hX hW [] rfl (by decide)) rfl rfl hl.1 rfl (lv_room (Nat.le_of_ble_eq_true rfl)) dX5_melt_71 ⟨Nat.le_of_ble_eq_true rfl, Nat.le_of_ble_eq_true rfl⟩) hX hW [] rfl (by decide) (fun _ => rfl) (fun r_71 u_71 H locs h_71 hW => ?_)
            have hW : zW Z s A [(o0, .inr (5, [.int (nI 0), .int dy, .int me, .int co, .int (nI np), .int ca, .int br, .int ml, .ref o1, .ref o2, .ref o3, .ref o4, .ref o5, .ref o6, .int le, .ref o7, .ref o8])), (o1, zI Z 3770 (stF S F G)), (o2, zI Z 6 (qF pn 0)), (o3, zI Z 6 (qF pn 1)), (o4, zI Z 6 (qF pn 2)), (o5, zI Z 6 (qF pn 3)), (o6, zI Z 6 E), (o7, zI Z 29 Tk), (o8, zI Z 29 Lf)] _ _ := hW
            subst h_71
            refine lv_iconst (v := nI 1) hx hb dX5_melt_74 (by decide) ?_
            refine lv_isub hx hb dX5_melt_75 ?_
            refine zw_topi (y := (if j / 10 < 26 then nI 1 else nI 2)) (pr3_1 _) ?_
            refine lv_imul hx hb dX5_melt_76 ?_
            refine lv_iadd hx hb dX5_melt_77 ?_
            refine lv_istore_n (lv' := [(2, .int (x + ((S j) * (if j / 10 < 26 then nI 1 else nI 2)))), (3, .int (y + (S j))), (4, .int (nI j)), (0, .ref o0), (1, .int (nI (sn wv)))]) hx hb dX5_melt_78 rfl hl (by decide) rfl (fun ls hl => ?_)
            refine lv_iinc (v := nI (j + 1)) (lv' := [(4, .int (nI (j + 1))), (2, .int (x + ((S j) * (if j / 10 < 26 then nI 1 else nI 2)))), (3, .int (y + (S j))), (0, .ref o0), (1, .int (nI (sn wv)))]) hx hb dX5_melt_79 hl (k := 2) rfl (zinc1 _) (by decide) rfl (fun ls hl => ?_)
            refine lv_goto (tgt := 28) hx hb dX5_melt_82 (by decide) ?_
            have hl : lv_has ls 5 [(4, .int (nI (j + 1))), (3, .int (y + (S j))), (2, .int (x + ((S j) * (if j / 10 < 26 then nI 1 else nI 2)))), (0, .ref o0), (1, .int (nI (sn wv)))] := lv_sub hl [0, 2, 1, 3, 4] rfl
            exact ih_28 (j + 1) (x + ((S j) * (if j / 10 < 26 then nI 1 else nI 2))) (y + (S j)) (by omega) (by subst hx9; first | exact mf_t (Nat.not_le.mp c_42) | exact mf_n (Nat.not_lt.mpr c_42)) (by subst hy9; first | exact cf_t (Nat.not_le.mp c_42) | exact cf_n (Nat.not_lt.mpr c_42)) (by omega) _ _ _ hW hl
          · refine lv_goto (tgt := 79) hx hb dX5_melt_45 (by decide) ?_
            refine lv_iinc (v := nI (j + 1)) (lv' := [(4, .int (nI (j + 1))), (3, .int y), (2, .int x), (0, .ref o0), (1, .int (nI (sn wv)))]) hx hb dX5_melt_79 hl (k := 0) rfl (zinc1 _) (by decide) rfl (fun ls hl => ?_)
            refine lv_goto (tgt := 28) hx hb dX5_melt_82 (by decide) ?_
            have hl : lv_has ls 5 [(4, .int (nI (j + 1))), (3, .int y), (2, .int x), (0, .ref o0), (1, .int (nI (sn wv)))] := lv_sub hl [0, 1, 2, 3, 4] rfl
            exact ih_28 (j + 1) x y (by omega) (by subst hx9; first | exact mf_t (Nat.not_le.mp c_42) | exact mf_n (Nat.not_lt.mpr c_42)) (by subst hy9; first | exact cf_t (Nat.not_le.mp c_42) | exact cf_n (Nat.not_lt.mpr c_42)) (by omega) _ _ _ hW hl
    have hl : lv_has ls 5 [(4, .int (nI 0)), (3, .int (nI 0)), (2, .int (nI 0)), (0, .ref o0), (1, .int (nI (sn wv)))] := lv_sub hl [0, 1, 2, 3, 4] rfl
    exact loop_28 _ 0 (nI 0) (nI 0) (by omega) rfl rfl (Nat.lt_succ_self _) _ _ _ hW hl
  · refine lv_aload_n hx hb dX5_melt_15 rfl (lv_at hl 0 rfl) ?_
    refine lv_iconst (v := nI 1) hx hb dX5_melt_16 (by decide) ?_
    refine zc_i (va_runV (As := [.int (nI 1)]) (rest := []) hC (c_X5_no l Z o0 o1 o2 o3 o4 o5 o6 o7 o8 np (nI 0) dy me co ca br ml le 1  _) (cwV 1 hts gX5_melt_X5_no rfl rfl rfl (by decide +kernel) ⟨Nat.le_of_ble_eq_true rfl, Nat.le_of_ble_eq_true rfl⟩) (zpreV (ci := 5) (q0 := 0) hX hW rfl rfl [0] rfl (by decide)) rfl rfl hl.1 rfl (lv_room (Nat.le_of_ble_eq_true rfl)) dX5_melt_17 ⟨Nat.le_of_ble_eq_true rfl, Nat.le_of_ble_eq_true rfl⟩) hX hW [0] rfl (by decide) (fun _ => rfl) (fun r_17 u_17 H locs h_17 hW => ?_)
    have hW : zW Z s A [(o0, .inr (5, [.int (nI 1), .int dy, .int me, .int co, .int (nI np), .int ca, .int br, .int ml, .ref o1, .ref o2, .ref o3, .ref o4, .ref o5, .ref o6, .int le, .ref o7, .ref o8])), (o1, zI Z 3770 (stF S F G)), (o2, zI Z 6 (qF pn 0)), (o3, zI Z 6 (qF pn 1)), (o4, zI Z 6 (qF pn 2)), (o5, zI Z 6 (qF pn 3)), (o6, zI Z 6 E), (o7, zI Z 29 Tk), (o8, zI Z 29 Lf)] _ _ := hW
    subst h_17
    exact z_iret hx hb hr hlk hW (nI 1, me, ml, stF S F G) (by unfold po_X5_melt; exact Or.inr ⟨1, by omega, cdx_1 (fun h6 => bI_e c_12 (isT_iff.mpr h6)), rfl, rfl, rfl, rfl⟩) (rfl) (by omega) (by omega) dX5_melt_20
