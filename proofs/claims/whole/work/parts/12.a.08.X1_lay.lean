theorem mw_X1_lay_0 : Cond.fieldLink RX1 15 "TypeFoundry$Setting" "taken" "[I" ∈ wsX1_lay := by decide +kernel
theorem mw_X1_lay_1 : ∀ w ∈ wsX10, w ∈ wsX1_lay := by decide +kernel
theorem mw_X1_lay_2 : Cond.fieldLink RX1 9 "TypeFoundry$Setting" "left" "[I" ∈ wsX1_lay := by decide +kernel
theorem mw_X1_lay_3 : Cond.initialized RX4 ∈ wsX1_lay := by decide +kernel
theorem mw_X1_lay_4 : Cond.static yX4_isLigature ∈ wsX1_lay := by decide +kernel
abbrev wp_X1_lay (Z : zT) (z zl zt : Nat) (lf tk : Nat → Int32) (a b : Nat) (L : Nat → Int32) (k : Nat) (t : Nat → Nat) : Unit → va_W := fun (u : Unit) => [(z, .inr (1, [.ref zl, .ref zt])), (zl, zI Z 29 ((ly0 t k lf).2.1)), (zt, zI Z 29 ((ly0 t k lf).2.2)), (a, .inr (3, [.ref b, .int (nI (6 - k))])), (b, zI Z 6 L)]
abbrev po_X1_lay (Z : zT) (z zl zt : Nat) (lf tk : Nat → Int32) (a b : Nat) (L : Nat → Int32) (k : Nat) (t : Nat → Nat) : Int32 → Unit → Prop := fun (r : Int32) (u : Unit) => r = (ly0 t k lf).1
abbrev rm_X1_lay : Room := { frames := 3, cells := 0, slots := 0, locals := 65 }
set_option maxHeartbeats 4000000 in
set_option maxRecDepth 100000 in
theorem c_X1_lay (l : Launch) (Z : zT) (z zl zt : Nat) (lf tk : Nat → Int32) (a b : Nat) (L : Nat → Int32) (k : Nat) (t : Nat → Nat) (hw9 : wdC k t L) : zMet l yX1_lay wsX1_lay rm_X1_lay [.ref z, .ref a] Z [(z, .inr (1, [.ref zl, .ref zt])), (zl, zI Z 29 lf), (zt, zI Z 29 tk), (a, .inr (3, [.ref b, .int (nI (6 - k))])), (b, zI Z 6 L)] (zQi Z (po_X1_lay Z z zl zt lf tk a b L k t) (wp_X1_lay Z z zl zt lf tk a b L k t)) 0 0 := by
  refine zstart (cc := cX1_lay) (maxL := 5) (ret := (some .int)) (by decide) rfl (Nat.le_of_ble_eq_true rfl) ?_
  intro p e s m below meth c ls A hx hb hr hC hlk hnm hX hW hl
  have hml := hC.2.2.1
  have hown : s.vm.findClass RX1 = some m.cls := hC.2.2.2.1
  have hts := hC.2.2.2.2
  have hl : lv_has ls 5 [(0, .ref z), (1, .ref a)] := hl
  have hw8 := hw9.2.1
  refine lv_aload_n hx hb dX1_lay_0 rfl (lv_at hl 0 rfl) ?_
  refine z_get (C := RX1) (T := TX1) (N := 2) hx hb hts mw_X1_lay_1 hown hX hW 0 rfl rfl 1 (by decide) mw_X1_lay_0 (fun _ h9 => h9) rfl dX1_lay_1 ?_
  refine lv_iconst (v := nI 0) hx hb dX1_lay_4 (by decide) ?_
  refine zc_v (va_runS (As := [.ref zt, .int (nI 0)]) (rest := []) hC (c_J7_fill_53178 l Z zt tk (nI 0)  _) (va_cwS 2 hts gX1_lay_J7_fill_53178 rfl rfl rfl (by decide +kernel) ⟨Nat.le_of_ble_eq_true rfl, Nat.le_of_ble_eq_true rfl⟩) (zpreS hX hW [2] rfl (by decide)) rfl rfl hl.1 rfl (lv_room (Nat.le_of_ble_eq_true rfl)) dX1_lay_5 ⟨Nat.le_of_ble_eq_true rfl, Nat.le_of_ble_eq_true rfl⟩) hX hW [2] rfl (by decide) (fun _ => rfl) (fun u_5 H locs h_5 hW => ?_)
  have hW : zW Z s A [(z, .inr (1, [.ref zl, .ref zt])), (zl, zI Z 29 lf), (zt, zI Z 29 (fun _ => (nI 0))), (a, .inr (3, [.ref b, .int (nI (6 - k))])), (b, zI Z 6 L)] _ _ := hW
  refine lv_iconst (v := nI 0) hx hb dX1_lay_8 (by decide) ?_
  refine lv_istore_n (lv' := [(2, .int (nI 0)), (0, .ref z), (1, .ref a)]) hx hb dX1_lay_9 rfl hl (by decide) rfl (fun ls hl => ?_)
  refine lv_aload_n hx hb dX1_lay_10 rfl (lv_at hl 2 rfl) ?_
  refine zc_i (va_runV (As := []) (rest := []) hC (c_X3_firstPlace l Z a b L (6 - k)  _) (cwV 0 hts gX1_lay_X3_firstPlace rfl rfl rfl (by decide +kernel) ⟨Nat.le_of_ble_eq_true rfl, Nat.le_of_ble_eq_true rfl⟩) (zpreV (ci := 3) (q0 := 3) hX hW rfl rfl [3, 4] rfl (by decide)) rfl rfl hl.1 rfl (lv_room (Nat.le_of_ble_eq_true rfl)) dX1_lay_11 ⟨Nat.le_of_ble_eq_true rfl, Nat.le_of_ble_eq_true rfl⟩) hX hW [3, 4] rfl (by decide) (fun _ => rfl) (fun r_11 u_11 H locs h_11 hW => ?_)
  have hW : zW Z s A [(z, .inr (1, [.ref zl, .ref zt])), (zl, zI Z 29 lf), (zt, zI Z 29 (fun _ => (nI 0))), (a, .inr (3, [.ref b, .int (nI (6 - k))])), (b, zI Z 6 L)] _ _ := hW
  subst h_11
  refine lv_istore_n (lv' := [(3, .int (nI (6 - k))), (2, .int (nI 0)), (0, .ref z), (1, .ref a)]) hx hb dX1_lay_14 rfl hl (by decide) rfl (fun ls hl => ?_)
  have loop_15 : ∀ (n : Nat) (i : Nat) (x : Nat) (nn : Nat) (lf1 : Nat → Int32) (tk1 : Nat → Int32), (i ≤ k) → (k - i ≤ nn) → (ly0 t k lf = ly t k nn i x lf1 tk1) → (k - i < n) → ∀ (H : Heap) (locs : List Loc) (ls : Array Slot), zW Z s A [(z, .inr (1, [.ref zl, .ref zt])), (zl, zI Z 29 lf1), (zt, zI Z 29 tk1), (a, .inr (3, [.ref b, .int (nI (6 - k))])), (b, zI Z 6 L)] H locs → lv_has ls 5 [(3, .int (nI (6 - k + i))), (2, .int (nI x)), (0, .ref z), (1, .ref a)] → W p l e rm_X1_lay s m ([.ref z, .ref a] : List Value).toArray below meth c H locs 0 0 (MQ below (zQi Z (po_X1_lay Z z zl zt lf tk a b L k t) (wp_X1_lay Z z zl zt lf tk a b L k t) A) ([.ref z, .ref a] : List Value).toArray s 0 0 A) (F0 m 15 ls []) := by
    intro n
    induction n with
    | zero =>
      intro i x nn lf1 tk1 hi hf9 hE hm
      exact absurd hm (Nat.not_lt_zero _)
    | succ n ih =>
      intro i x nn lf1 tk1 hi hf9 hE hm H locs ls hW hl
      have ih_15 := ih
      refine lv_iload_n hx hb dX1_lay_15 rfl (lv_at hl 0 rfl) ?_
      refine lv_bipush (v := nI 6) hx hb dX1_lay_16 (by decide) ?_
      refine zn_icmp_ge (tgt := 98) (a := (6 - k + i)) (b := 6) hx hb (by omega) (by omega) dX1_lay_18 (by decide) (fun c_18 => ?_) (fun c_18 => ?_)
      · refine lv_iload_n hx hb dX1_lay_98 rfl (lv_at hl 1 rfl) ?_
        exact z_iret hx hb hr hlk hW () (by unfold po_X1_lay; rw [hE, ly_end (by omega)]) (by unfold wp_X1_lay; rw [hE, ly_end (by omega)]) (by omega) (by omega) dX1_lay_99
      · have hik : i < k := by omega
        have hs9 := sf_in (lf := lf1) hw9.2.2.1 hik
        refine lv_aload_n hx hb dX1_lay_21 rfl (lv_at hl 2 rfl) ?_
        refine lv_aload_n hx hb dX1_lay_22 rfl (lv_at hl 3 rfl) ?_
        refine lv_iload_n hx hb dX1_lay_23 rfl (lv_at hl 0 rfl) ?_
        refine zc_i (va_runV (As := [.ref a, .int (nI (6 - k + i))]) (rest := []) hC (c_X1_signFor l Z z zl zt lf1 tk1 a b L k t i hw9 hik _) (cwV 2 hts gX1_lay_X1_signFor rfl rfl rfl (by decide +kernel) ⟨Nat.le_of_ble_eq_true rfl, Nat.le_of_ble_eq_true rfl⟩) (zpreV (ci := 1) (q0 := 0) hX hW rfl rfl [0, 1, 2, 3, 4] rfl (by decide)) rfl rfl hl.1 rfl (lv_room (Nat.le_of_ble_eq_true rfl)) dX1_lay_24 ⟨Nat.le_of_ble_eq_true rfl, Nat.le_of_ble_eq_true rfl⟩) hX hW [0, 1, 2, 3, 4] rfl (by decide) (fun _ => rfl) (fun r_24 u_24 H locs h_24 hW => ?_)
        have hW : zW Z s A [(z, .inr (1, [.ref zl, .ref zt])), (zl, zI Z 29 lf1), (zt, zI Z 29 tk1), (a, .inr (3, [.ref b, .int (nI (6 - k))])), (b, zI Z 6 L)] _ _ := hW
        subst h_24
        refine lv_istore (lv' := [(4, .int (nI (sf lf1 t k i))), (3, .int (nI (6 - k + i))), (2, .int (nI x)), (0, .ref z), (1, .ref a)]) hx hb dX1_lay_27 hl (by decide) rfl (fun ls hl => ?_)
        refine lv_iload hx hb dX1_lay_29 (lv_at hl 0 rfl) ?_
        refine zn_if_lt (tgt := 52) (a := (sf lf1 t k i)) hx hb (by omega) dX1_lay_31 (by decide) ?_
        refine lv_iload hx hb dX1_lay_34 (lv_at hl 0 rfl) ?_
        refine lv_bipush (v := nI 29) hx hb dX1_lay_36 (by decide) ?_
        refine zn_icmp_ge (tgt := 52) (a := (sf lf1 t k i)) (b := 29) hx hb (by omega) (by omega) dX1_lay_38 (by decide) (fun c_38 => absurd c_38 (by omega)) (fun c_38 => ?_)
        refine lv_aload_n hx hb dX1_lay_41 rfl (lv_at hl 3 rfl) ?_
        refine z_get (C := RX1) (T := TX1) (N := 2) hx hb hts mw_X1_lay_1 hown hX hW 0 rfl rfl 0 (by decide) mw_X1_lay_2 (fun _ h9 => h9) rfl dX1_lay_42 ?_
        refine lv_iload hx hb dX1_lay_45 (lv_at hl 0 rfl) ?_
        refine z_iald hx hb hX hW 1 rfl (k := (sf lf1 t k i)) (by omega) (hs9.1) dX1_lay_47 ?_
        refine lv_iconst (v := nI 1) hx hb dX1_lay_48 (by decide) ?_
        refine lv_icmp_ge (tgt := 54) hx hb dX1_lay_49 (by decide) (fun c_49 => ?_) (fun c_49 => ?_)
        · have hge := Int32.not_lt.mpr c_49
          refine lv_aload_n hx hb dX1_lay_54 rfl (lv_at hl 3 rfl) ?_
          refine z_get (C := RX1) (T := TX1) (N := 2) hx hb hts mw_X1_lay_1 hown hX hW 0 rfl rfl 0 (by decide) mw_X1_lay_2 (fun _ h9 => h9) rfl dX1_lay_55 ?_
          refine lv_iload hx hb dX1_lay_58 (lv_at hl 0 rfl) ?_
          refine lv_dup2_11 hx hb dX1_lay_60 rfl rfl ?_
          refine z_iald hx hb hX hW 1 rfl (k := (sf lf1 t k i)) (by omega) (hs9.1) dX1_lay_61 ?_
          refine lv_iconst (v := nI 1) hx hb dX1_lay_62 (by decide) ?_
          refine lv_isub hx hb dX1_lay_63 ?_
          refine z_iast hx hb hX hW 1 rfl (k := (sf lf1 t k i)) (by omega) (hs9.1) dX1_lay_64 (fun H locs hW => ?_)
          have hW : zW Z s A [(z, .inr (1, [.ref zl, .ref zt])), (zl, zI Z 29 (upd lf1 (sf lf1 t k i) ((lf1 (sf lf1 t k i)) - (nI 1)))), (zt, zI Z 29 tk1), (a, .inr (3, [.ref b, .int (nI (6 - k))])), (b, zI Z 6 L)] _ _ := hW
          refine lv_aload_n hx hb dX1_lay_65 rfl (lv_at hl 3 rfl) ?_
          refine z_get (C := RX1) (T := TX1) (N := 2) hx hb hts mw_X1_lay_1 hown hX hW 0 rfl rfl 1 (by decide) mw_X1_lay_0 (fun _ h9 => h9) rfl dX1_lay_66 ?_
          refine lv_iload hx hb dX1_lay_69 (lv_at hl 0 rfl) ?_
          refine lv_dup2_11 hx hb dX1_lay_71 rfl rfl ?_
          refine z_iald hx hb hX hW 2 rfl (k := (sf lf1 t k i)) (by omega) (hs9.1) dX1_lay_72 ?_
          refine lv_iconst (v := nI 1) hx hb dX1_lay_73 (by decide) ?_
          refine lv_iadd hx hb dX1_lay_74 ?_
          refine z_iast hx hb hX hW 2 rfl (k := (sf lf1 t k i)) (by omega) (hs9.1) dX1_lay_75 (fun H locs hW => ?_)
          have hW : zW Z s A [(z, .inr (1, [.ref zl, .ref zt])), (zl, zI Z 29 (upd lf1 (sf lf1 t k i) ((lf1 (sf lf1 t k i)) - (nI 1)))), (zt, zI Z 29 (upd tk1 (sf lf1 t k i) ((tk1 (sf lf1 t k i)) + (nI 1)))), (a, .inr (3, [.ref b, .int (nI (6 - k))])), (b, zI Z 6 L)] _ _ := hW
          refine lv_iinc (v := nI (x + 1)) (lv' := [(2, .int (nI (x + 1))), (4, .int (nI (sf lf1 t k i))), (3, .int (nI (6 - k + i))), (0, .ref z), (1, .ref a)]) hx hb dX1_lay_76 hl (k := 2) rfl (zinc1 _) (by decide) rfl (fun ls hl => ?_)
          refine lv_iload_n hx hb dX1_lay_79 rfl (lv_at hl 2 rfl) ?_
          refine lv_iload hx hb dX1_lay_80 (lv_at hl 1 rfl) ?_
          refine zc_i (va_runSN (As := [.int (nI (sf lf1 t k i))]) (rest := [.int (nI (6 - k + i))]) hC (c_X4_isLigature l Z (sf lf1 t k i) hs9.1 _) ⟨va_cnB 1 hts gX1_lay_X4_isLigature_n40 rfl rfl rfl (hX.1.2.1 (Cond.methodLinkNest RX1 40 yX4_isLigature RX4) (by decide +kernel)) (hts _ mw_X1_lay_3) (by decide +kernel) ⟨Nat.le_of_ble_eq_true rfl, Nat.le_of_ble_eq_true rfl⟩, hts _ mw_X1_lay_4, trivial⟩ (zpreS hX hW [] rfl (by decide)) rfl rfl hl.1 rfl (lv_room (Nat.le_of_ble_eq_true rfl)) dX1_lay_82 ⟨Nat.le_of_ble_eq_true rfl, Nat.le_of_ble_eq_true rfl⟩) hX hW [] rfl (by decide) (fun _ => rfl) (fun r_82 u_82 H locs h_82 hW => ?_)
          have hW : zW Z s A [(z, .inr (1, [.ref zl, .ref zt])), (zl, zI Z 29 (upd lf1 (sf lf1 t k i) ((lf1 (sf lf1 t k i)) - (nI 1)))), (zt, zI Z 29 (upd tk1 (sf lf1 t k i) ((tk1 (sf lf1 t k i)) + (nI 1)))), (a, .inr (3, [.ref b, .int (nI (6 - k))])), (b, zI Z 6 L)] _ _ := hW
          subst h_82
          refine lv_if_eq (tgt := 92) hx hb dX1_lay_85 (by decide) (fun c_85 => ?_) (fun c_85 => ?_)
          · have hlg := zlig0 c_85
            refine lv_iconst (v := nI 1) hx hb dX1_lay_92 (by decide) ?_
            refine lv_iadd hx hb dX1_lay_93 ?_
            refine zw_topi (nI_add _ _) ?_
            refine lv_istore_n (lv' := [(3, .int (nI ((6 - k + i) + 1))), (2, .int (nI (x + 1))), (4, .int (nI (sf lf1 t k i))), (0, .ref z), (1, .ref a)]) hx hb dX1_lay_94 rfl hl (by decide) rfl (fun ls hl => ?_)
            refine lv_goto (tgt := 15) hx hb dX1_lay_95 (by decide) ?_
            have hl : lv_has ls 5 [(3, .int (nI (6 - k + (i + 1)))), (2, .int (nI (x + 1))), (0, .ref z), (1, .ref a)] := lv_sub hl [0, 1, 3, 4] rfl
            exact ih_15 (i + 1) (x + 1) (nn - 1) (upd lf1 (sf lf1 t k i) ((lf1 (sf lf1 t k i)) - (nI 1))) (upd tk1 (sf lf1 t k i) ((tk1 (sf lf1 t k i)) + (nI 1))) (by omega) (by omega) (by rw [hE]; first | exact ly_1 hik hf9 hge hlg | exact ly_2 hik hf9 hge hlg) (by omega) _ _ _ hW hl
          · have hlg := zlig1 c_85
            have hs8 := hs9.2 hlg
            refine lv_iconst (v := nI 2) hx hb dX1_lay_88 (by decide) ?_
            refine lv_goto (tgt := 93) hx hb dX1_lay_89 (by decide) ?_
            refine lv_iadd hx hb dX1_lay_93 ?_
            refine zw_topi (nI_add _ _) ?_
            refine lv_istore_n (lv' := [(3, .int (nI ((6 - k + i) + 2))), (2, .int (nI (x + 1))), (4, .int (nI (sf lf1 t k i))), (0, .ref z), (1, .ref a)]) hx hb dX1_lay_94 rfl hl (by decide) rfl (fun ls hl => ?_)
            refine lv_goto (tgt := 15) hx hb dX1_lay_95 (by decide) ?_
            have hl : lv_has ls 5 [(3, .int (nI (6 - k + (i + 2)))), (2, .int (nI (x + 1))), (0, .ref z), (1, .ref a)] := lv_sub hl [0, 1, 3, 4] rfl
            exact ih_15 (i + 2) (x + 1) (nn - 1) (upd lf1 (sf lf1 t k i) ((lf1 (sf lf1 t k i)) - (nI 1))) (upd tk1 (sf lf1 t k i) ((tk1 (sf lf1 t k i)) + (nI 1))) (by omega) (by omega) (by rw [hE]; first | exact ly_1 hik hf9 hge hlg | exact ly_2 hik hf9 hge hlg) (by omega) _ _ _ hW hl
        · refine lv_iconst (v := -1) hx hb dX1_lay_52 (by decide) ?_
          exact z_iret hx hb hr hlk hW () (by unfold po_X1_lay; rw [hE, ly_no hik hf9 (Int32.not_le.mp c_49)]) (by unfold wp_X1_lay; rw [hE, ly_no hik hf9 (Int32.not_le.mp c_49)]) (by omega) (by omega) dX1_lay_53
  have hl : lv_has ls 5 [(3, .int (nI (6 - k + 0))), (2, .int (nI 0)), (0, .ref z), (1, .ref a)] := lv_sub hl [0, 1, 2, 3] rfl
  exact loop_15 _ 0 0 6 lf (fun _ => (nI 0)) (by omega) (by omega) rfl (Nat.lt_succ_self _) _ _ _ hW hl
