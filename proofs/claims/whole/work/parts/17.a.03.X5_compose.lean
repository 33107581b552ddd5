theorem mw_X5_compose_0 : Cond.fieldLink RX5 32 "TypeFoundryModel" "takes" "[I" ∈ wsX5_compose := by decide +kernel
theorem mw_X5_compose_1 : ∀ w ∈ wsX50, w ∈ wsX5_compose := by decide +kernel
theorem mw_X5_compose_2 : Cond.fieldLink RX5 87 "TypeFoundryModel" "letters" "I" ∈ wsX5_compose := by decide +kernel
theorem mw_X5_compose_3 : Cond.fieldLink RX5 29 "TypeFoundryModel" "letter" "[I" ∈ wsX5_compose := by decide +kernel
theorem mw_X5_compose_4 : Cond.fieldLink RX5 35 "TypeFoundryModel" "left" "[I" ∈ wsX5_compose := by decide +kernel
abbrev wp_X5_compose (Z : zT) (o0 o1 o2 o3 o4 o5 o6 o7 o8 np : Nat) (th dy me co ca br ml : Int32) (E Tk Lf : Nat → Int32) (k : Nat) (t : Nat → Nat) : Unit → va_W := fun (u : Unit) => [(o0, .inr (5, [.int th, .int dy, .int me, .int co, .int (nI np), .int ca, .int br, .int ml, .ref o1, .ref o2, .ref o3, .ref o4, .ref o5, .ref o6, .int (nI k), .ref o7, .ref o8])), (o6, zI Z 6 E), (o7, zI Z 29 ((ly0 t k Lf).2.2)), (o8, zI Z 29 ((ly0 t k Lf).2.1))]
abbrev po_X5_compose (Z : zT) (o0 o1 o2 o3 o4 o5 o6 o7 o8 np : Nat) (th dy me co ca br ml : Int32) (E Tk Lf : Nat → Int32) (k : Nat) (t : Nat → Nat) : Int32 → Unit → Prop := fun (r : Int32) (u : Unit) => r = (ly0 t k Lf).1
abbrev rm_X5_compose : Room := { frames := 1, cells := 0, slots := 0, locals := 23 }
set_option maxHeartbeats 4000000 in
set_option maxRecDepth 100000 in
theorem c_X5_compose (l : Launch) (Z : zT) (o0 o1 o2 o3 o4 o5 o6 o7 o8 np : Nat) (th dy me co ca br ml : Int32) (E Tk Lf : Nat → Int32) (k : Nat) (t : Nat → Nat) (hw9 : wdM k t E) (hnn : ∀ q9, q9 < 29 → nn (Lf q9)) : zMet l yX5_compose wsX5_compose rm_X5_compose [.ref o0] Z [(o0, .inr (5, [.int th, .int dy, .int me, .int co, .int (nI np), .int ca, .int br, .int ml, .ref o1, .ref o2, .ref o3, .ref o4, .ref o5, .ref o6, .int (nI k), .ref o7, .ref o8])), (o6, zI Z 6 E), (o7, zI Z 29 Tk), (o8, zI Z 29 Lf)] (zQi Z (po_X5_compose Z o0 o1 o2 o3 o4 o5 o6 o7 o8 np th dy me co ca br ml E Tk Lf k t) (wp_X5_compose Z o0 o1 o2 o3 o4 o5 o6 o7 o8 np th dy me co ca br ml E Tk Lf k t)) 0 0 := by
  refine zstart (cc := cX5_compose) (maxL := 4) (ret := (some .int)) (by decide) rfl (Nat.le_of_ble_eq_true rfl) ?_
  intro p e s m below meth c ls A hx hb hr hC hlk hnm hX hW hl
  have hml := hC.2.2.1
  have hown : s.vm.findClass RX5 = some m.cls := hC.2.2.2.1
  have hts := hC.2.2.2.2
  have hl : lv_has ls 4 [(0, .ref o0)] := hl
  have hw8 := hw9.2.1
  refine lv_iconst (v := nI 0) hx hb dX5_compose_0 (by decide) ?_
  refine lv_istore_n (lv' := [(1, .int (nI 0)), (0, .ref o0)]) hx hb dX5_compose_1 rfl hl (by decide) rfl (fun ls hl => ?_)
  refine lv_aload_n hx hb dX5_compose_2 rfl (lv_at hl 1 rfl) ?_
  refine z_get (C := RX5) (T := TX5) (N := 17) hx hb hts mw_X5_compose_1 hown hX hW 0 rfl rfl 15 (by decide) mw_X5_compose_0 (fun _ h9 => h9) rfl dX5_compose_3 ?_
  refine lv_iconst (v := nI 0) hx hb dX5_compose_6 (by decide) ?_
  refine zc_v (va_runS (As := [.ref o7, .int (nI 0)]) (rest := []) hC (c_J7_fill_53178 l Z o7 Tk (nI 0)  _) (va_cwS 2 hts gX5_compose_J7_fill_53178 rfl rfl rfl (by decide +kernel) ⟨Nat.le_of_ble_eq_true rfl, Nat.le_of_ble_eq_true rfl⟩) (zpreS hX hW [2] rfl (by decide)) rfl rfl hl.1 rfl (lv_room (Nat.le_of_ble_eq_true rfl)) dX5_compose_7 ⟨Nat.le_of_ble_eq_true rfl, Nat.le_of_ble_eq_true rfl⟩) hX hW [2] rfl (by decide) (fun _ => rfl) (fun u_7 H locs h_7 hW => ?_)
  have hW : zW Z s A [(o0, .inr (5, [.int th, .int dy, .int me, .int co, .int (nI np), .int ca, .int br, .int ml, .ref o1, .ref o2, .ref o3, .ref o4, .ref o5, .ref o6, .int (nI k), .ref o7, .ref o8])), (o6, zI Z 6 E), (o7, zI Z 29 (fun _ => (nI 0))), (o8, zI Z 29 Lf)] _ _ := hW
  refine lv_iconst (v := nI 0) hx hb dX5_compose_10 (by decide) ?_
  refine lv_istore_n (lv' := [(2, .int (nI 0)), (1, .int (nI 0)), (0, .ref o0)]) hx hb dX5_compose_11 rfl hl (by decide) rfl (fun ls hl => ?_)
  have loop_12 : ∀ (n : Nat) (i : Nat) (x : Nat) (nq : Nat) (lf1 : Nat → Int32) (tk1 : Nat → Int32), (i ≤ k) → (k - i ≤ nq) → (ly0 t k Lf = ly t k nq i x lf1 tk1) → (∀ q9, q9 < 29 → nn (lf1 q9)) → (k - i < n) → ∀ (H : Heap) (locs : List Loc) (ls : Array Slot), zW Z s A [(o0, .inr (5, [.int th, .int dy, .int me, .int co, .int (nI np), .int ca, .int br, .int ml, .ref o1, .ref o2, .ref o3, .ref o4, .ref o5, .ref o6, .int (nI k), .ref o7, .ref o8])), (o6, zI Z 6 E), (o7, zI Z 29 tk1), (o8, zI Z 29 lf1)] H locs → lv_has ls 4 [(2, .int (nI i)), (1, .int (nI x)), (0, .ref o0)] → W p l e rm_X5_compose s m ([.ref o0] : List Value).toArray below meth c H locs 0 0 (MQ below (zQi Z (po_X5_compose Z o0 o1 o2 o3 o4 o5 o6 o7 o8 np th dy me co ca br ml E Tk Lf k t) (wp_X5_compose Z o0 o1 o2 o3 o4 o5 o6 o7 o8 np th dy me co ca br ml E Tk Lf k t) A) ([.ref o0] : List Value).toArray s 0 0 A) (F0 m 12 ls []) := by
    intro n
    induction n with
    | zero =>
      intro i x nq lf1 tk1 hi hf9 hE hnn1 hm
      exact absurd hm (Nat.not_lt_zero _)
    | succ n ih =>
      intro i x nq lf1 tk1 hi hf9 hE hnn1 hm H locs ls hW hl
      have ih_12 := ih
      refine lv_iload_n hx hb dX5_compose_12 rfl (lv_at hl 0 rfl) ?_
      refine lv_aload_n hx hb dX5_compose_13 rfl (lv_at hl 2 rfl) ?_
      refine z_get (C := RX5) (T := TX5) (N := 17) hx hb hts mw_X5_compose_1 hown hX hW 0 rfl rfl 14 (by decide) mw_X5_compose_2 (fun _ h9 => h9) rfl dX5_compose_14 ?_
      refine zn_icmp_ge (tgt := 93) (a := i) (b := k) hx hb (by omega) (by omega) dX5_compose_17 (by decide) (fun c_17 => ?_) (fun c_17 => ?_)
      · refine lv_iload_n hx hb dX5_compose_93 rfl (lv_at hl 1 rfl) ?_
        exact z_iret hx hb hr hlk hW () (by unfold po_X5_compose; rw [hE, ly_end (by omega)]) (by unfold wp_X5_compose; rw [hE, ly_end (by omega)]) (by omega) (by omega) dX5_compose_94
      · have hik : i < k := by omega
        have hw7 := hw9.2.2.1 i hik
        refine lv_aload_n hx hb dX5_compose_20 rfl (lv_at hl 2 rfl) ?_
        refine lv_iload_n hx hb dX5_compose_21 rfl (lv_at hl 0 rfl) ?_
        refine zc_i (va_runV (As := [.int (nI i)]) (rest := []) hC (c_X5_ligature l Z o0 o1 o2 o3 o4 o5 o6 o7 o8 np th dy me co ca br ml E k t i hw9 hik _) (cwV 1 hts gX5_compose_X5_ligature rfl rfl rfl (by decide +kernel) ⟨Nat.le_of_ble_eq_true rfl, Nat.le_of_ble_eq_true rfl⟩) (zpreV (ci := 5) (q0 := 0) hX hW rfl rfl [0, 1] rfl (by decide)) rfl rfl hl.1 rfl (lv_room (Nat.le_of_ble_eq_true rfl)) dX5_compose_22 ⟨Nat.le_of_ble_eq_true rfl, Nat.le_of_ble_eq_true rfl⟩) hX hW [0, 1] rfl (by decide) (fun _ => rfl) (fun r_22 u_22 H locs h_22 hW => ?_)
        have hW : zW Z s A [(o0, .inr (5, [.int th, .int dy, .int me, .int co, .int (nI np), .int ca, .int br, .int ml, .ref o1, .ref o2, .ref o3, .ref o4, .ref o5, .ref o6, .int (nI k), .ref o7, .ref o8])), (o6, zI Z 6 E), (o7, zI Z 29 tk1), (o8, zI Z 29 lf1)] _ _ := hW
        subst h_22
        refine lv_istore_n (lv' := [(3, .int (glI (gl t k i))), (2, .int (nI i)), (1, .int (nI x)), (0, .ref o0)]) hx hb dX5_compose_25 rfl hl (by decide) rfl (fun ls hl => ?_)
        rcases gl_in t k i with hz | ⟨hz1, hz2, hz3⟩
        · rw [glI_0 hz] at hl
          have hl : lv_has ls 4 [(3, .int (-1)), (2, .int (nI i)), (1, .int (nI x)), (0, .ref o0)] := hl
          refine lv_iload_n hx hb dX5_compose_26 rfl (lv_at hl 0 rfl) ?_
          refine lv_iconst (v := -1) hx hb dX5_compose_27 (by decide) ?_
          refine lv_icmp_eq (tgt := 40) hx hb dX5_compose_28 (by decide) (fun c_28 => ?_) (fun c_28 => absurd rfl c_28)
          refine lv_aload_n hx hb dX5_compose_40 rfl (lv_at hl 3 rfl) ?_
          refine z_get (C := RX5) (T := TX5) (N := 17) hx hb hts mw_X5_compose_1 hown hX hW 0 rfl rfl 13 (by decide) mw_X5_compose_3 (fun _ h9 => h9) rfl dX5_compose_41 ?_
          refine lv_iload_n hx hb dX5_compose_44 rfl (lv_at hl 1 rfl) ?_
          refine z_iald hx hb hX hW 1 rfl (k := i) (by omega) (by omega) dX5_compose_45 ?_
          refine zw_topi (y := (nI (t i))) (hw9.2.2.2 i hik) ?_
          refine lv_istore_n (lv' := [(3, .int (nI (t i))), (2, .int (nI i)), (1, .int (nI x)), (0, .ref o0)]) hx hb dX5_compose_46 rfl hl (by decide) rfl (fun ls hl => ?_)
          refine lv_goto (tgt := 53) hx hb dX5_compose_47 (by decide) ?_
          have hsf : sf lf1 t k i = t i := sf_let (by first | exact Or.inl hz | exact Or.inr (by rw [c_37]; exact Int32.le_refl 0))
          have hlg : sf lf1 t k i < 26 := by rw [hsf]; exact hw9.2.2.1 i hik
          have hl : lv_has ls 4 [(3, .int (nI (sf lf1 t k i))), (2, .int (nI i)), (1, .int (nI x)), (0, .ref o0)] := by rw [hsf]; exact hl
          have hs9 := sf_in (lf := lf1) hw9.2.2.1 hik
          refine lv_aload_n hx hb dX5_compose_53 rfl (lv_at hl 3 rfl) ?_
          refine z_get (C := RX5) (T := TX5) (N := 17) hx hb hts mw_X5_compose_1 hown hX hW 0 rfl rfl 16 (by decide) mw_X5_compose_4 (fun _ h9 => h9) rfl dX5_compose_54 ?_
          refine lv_iload_n hx hb dX5_compose_57 rfl (lv_at hl 0 rfl) ?_
          refine z_iald hx hb hX hW 3 rfl (k := (sf lf1 t k i)) (by omega) (hs9.1) dX5_compose_58 ?_
          refine lv_if_ne (tgt := 64) hx hb dX5_compose_59 (by decide) (fun c_59 => ?_) (fun c_59 => ?_)
          · have hge := nn_ge (hnn1 _ hs9.1) c_59
            have hs8 := hs9.2
            refine lv_aload_n hx hb dX5_compose_64 rfl (lv_at hl 3 rfl) ?_
            refine z_get (C := RX5) (T := TX5) (N := 17) hx hb hts mw_X5_compose_1 hown hX hW 0 rfl rfl 16 (by decide) mw_X5_compose_4 (fun _ h9 => h9) rfl dX5_compose_65 ?_
            refine lv_iload_n hx hb dX5_compose_68 rfl (lv_at hl 0 rfl) ?_
            refine lv_dup2_11 hx hb dX5_compose_69 rfl rfl ?_
            refine z_iald hx hb hX hW 3 rfl (k := (sf lf1 t k i)) (by omega) (hs9.1) dX5_compose_70 ?_
            refine lv_iconst (v := nI 1) hx hb dX5_compose_71 (by decide) ?_
            refine lv_isub hx hb dX5_compose_72 ?_
            refine z_iast hx hb hX hW 3 rfl (k := (sf lf1 t k i)) (by omega) (hs9.1) dX5_compose_73 (fun H locs hW => ?_)
            have hW : zW Z s A [(o0, .inr (5, [.int th, .int dy, .int me, .int co, .int (nI np), .int ca, .int br, .int ml, .ref o1, .ref o2, .ref o3, .ref o4, .ref o5, .ref o6, .int (nI k), .ref o7, .ref o8])), (o6, zI Z 6 E), (o7, zI Z 29 tk1), (o8, zI Z 29 (upd lf1 (sf lf1 t k i) ((lf1 (sf lf1 t k i)) - (nI 1))))] _ _ := hW
            refine lv_aload_n hx hb dX5_compose_74 rfl (lv_at hl 3 rfl) ?_
            refine z_get (C := RX5) (T := TX5) (N := 17) hx hb hts mw_X5_compose_1 hown hX hW 0 rfl rfl 15 (by decide) mw_X5_compose_0 (fun _ h9 => h9) rfl dX5_compose_75 ?_
            refine lv_iload_n hx hb dX5_compose_78 rfl (lv_at hl 0 rfl) ?_
            refine lv_dup2_11 hx hb dX5_compose_79 rfl rfl ?_
            refine z_iald hx hb hX hW 2 rfl (k := (sf lf1 t k i)) (by omega) (hs9.1) dX5_compose_80 ?_
            refine lv_iconst (v := nI 1) hx hb dX5_compose_81 (by decide) ?_
            refine lv_iadd hx hb dX5_compose_82 ?_
            refine z_iast hx hb hX hW 2 rfl (k := (sf lf1 t k i)) (by omega) (hs9.1) dX5_compose_83 (fun H locs hW => ?_)
            have hW : zW Z s A [(o0, .inr (5, [.int th, .int dy, .int me, .int co, .int (nI np), .int ca, .int br, .int ml, .ref o1, .ref o2, .ref o3, .ref o4, .ref o5, .ref o6, .int (nI k), .ref o7, .ref o8])), (o6, zI Z 6 E), (o7, zI Z 29 (upd tk1 (sf lf1 t k i) ((tk1 (sf lf1 t k i)) + (nI 1)))), (o8, zI Z 29 (upd lf1 (sf lf1 t k i) ((lf1 (sf lf1 t k i)) - (nI 1))))] _ _ := hW
            refine lv_iinc (v := nI (x + 1)) (lv' := [(1, .int (nI (x + 1))), (3, .int (nI (sf lf1 t k i))), (2, .int (nI i)), (0, .ref o0)]) hx hb dX5_compose_84 hl (k := 2) rfl (zinc1 _) (by decide) rfl (fun ls hl => ?_)
            refine lv_iinc (v := nI (i + 1)) (lv' := [(2, .int (nI (i + 1))), (1, .int (nI (x + 1))), (3, .int (nI (sf lf1 t k i))), (0, .ref o0)]) hx hb dX5_compose_87 hl (k := 2) rfl (zinc1 _) (by decide) rfl (fun ls hl => ?_)
            refine lv_goto (tgt := 12) hx hb dX5_compose_90 (by decide) ?_
            have hl : lv_has ls 4 [(2, .int (nI (i + 1))), (1, .int (nI (x + 1))), (0, .ref o0)] := lv_sub hl [0, 1, 3] rfl
            exact ih_12 (i + 1) (x + 1) (nq - 1) (upd lf1 (sf lf1 t k i) ((lf1 (sf lf1 t k i)) - (nI 1))) (upd tk1 (sf lf1 t k i) ((tk1 (sf lf1 t k i)) + (nI 1))) (by omega) (by omega) (by rw [hE]; first | exact ly_1 hik hf9 hge hlg | exact ly_2 hik hf9 hge hlg) (nn_dec hnn1 hs9.1 hge) (by omega) _ _ _ hW hl
          · have hlt : lf1 (sf lf1 t k i) < nI 1 := by rw [c_59]; decide
            refine lv_iconst (v := -1) hx hb dX5_compose_62 (by decide) ?_
            exact z_iret hx hb hr hlk hW () (by unfold po_X5_compose; rw [hE, ly_no hik hf9 hlt]) (by unfold wp_X5_compose; rw [hE, ly_no hik hf9 hlt]) (by omega) (by omega) dX5_compose_63
        · rw [glI_n (by omega)] at hl
          have hl : lv_has ls 4 [(3, .int (nI (gl t k i))), (2, .int (nI i)), (1, .int (nI x)), (0, .ref o0)] := hl
          refine lv_iload_n hx hb dX5_compose_26 rfl (lv_at hl 0 rfl) ?_
          refine lv_iconst (v := -1) hx hb dX5_compose_27 (by decide) ?_
          refine lv_icmp_eq (tgt := 40) hx hb dX5_compose_28 (by decide) (fun c_28 => absurd c_28 (nI_m1 (by omega))) (fun c_28 => ?_)
          refine lv_aload_n hx hb dX5_compose_31 rfl (lv_at hl 3 rfl) ?_
          refine z_get (C := RX5) (T := TX5) (N := 17) hx hb hts mw_X5_compose_1 hown hX hW 0 rfl rfl 16 (by decide) mw_X5_compose_4 (fun _ h9 => h9) rfl dX5_compose_32 ?_
          refine lv_iload_n hx hb dX5_compose_35 rfl (lv_at hl 0 rfl) ?_
          refine z_iald hx hb hX hW 3 rfl (k := (gl t k i)) (by omega) (by omega) dX5_compose_36 ?_
          refine lv_if_ne (tgt := 50) hx hb dX5_compose_37 (by decide) (fun c_37 => ?_) (fun c_37 => ?_)
          · refine lv_iinc (v := nI (i + 1)) (lv' := [(2, .int (nI (i + 1))), (3, .int (nI (gl t k i))), (1, .int (nI x)), (0, .ref o0)]) hx hb dX5_compose_50 hl (k := 1) rfl (zinc1 _) (by decide) rfl (fun ls hl => ?_)
            have hsf : sf lf1 t k i = gl t k i := sf_lig (by omega) (nn_le (hnn1 _ hz2) c_37)
            have hlg : 26 ≤ sf lf1 t k i := by rw [hsf]; omega
            have hl : lv_has ls 4 [(2, .int (nI (i + 1))), (3, .int (nI (sf lf1 t k i))), (1, .int (nI x)), (0, .ref o0)] := by rw [hsf]; exact hl
            have hs9 := sf_in (lf := lf1) hw9.2.2.1 hik
            refine lv_aload_n hx hb dX5_compose_53 rfl (lv_at hl 3 rfl) ?_
            refine z_get (C := RX5) (T := TX5) (N := 17) hx hb hts mw_X5_compose_1 hown hX hW 0 rfl rfl 16 (by decide) mw_X5_compose_4 (fun _ h9 => h9) rfl dX5_compose_54 ?_
            refine lv_iload_n hx hb dX5_compose_57 rfl (lv_at hl 1 rfl) ?_
            refine z_iald hx hb hX hW 3 rfl (k := (sf lf1 t k i)) (by omega) (hs9.1) dX5_compose_58 ?_
            refine lv_if_ne (tgt := 64) hx hb dX5_compose_59 (by decide) (fun c_59 => ?_) (fun c_59 => ?_)
            · have hge := nn_ge (hnn1 _ hs9.1) c_59
              have hs8 := hs9.2
              refine lv_aload_n hx hb dX5_compose_64 rfl (lv_at hl 3 rfl) ?_
              refine z_get (C := RX5) (T := TX5) (N := 17) hx hb hts mw_X5_compose_1 hown hX hW 0 rfl rfl 16 (by decide) mw_X5_compose_4 (fun _ h9 => h9) rfl dX5_compose_65 ?_
              refine lv_iload_n hx hb dX5_compose_68 rfl (lv_at hl 1 rfl) ?_
              refine lv_dup2_11 hx hb dX5_compose_69 rfl rfl ?_
              refine z_iald hx hb hX hW 3 rfl (k := (sf lf1 t k i)) (by omega) (hs9.1) dX5_compose_70 ?_
              refine lv_iconst (v := nI 1) hx hb dX5_compose_71 (by decide) ?_
              refine lv_isub hx hb dX5_compose_72 ?_
              refine z_iast hx hb hX hW 3 rfl (k := (sf lf1 t k i)) (by omega) (hs9.1) dX5_compose_73 (fun H locs hW => ?_)
              have hW : zW Z s A [(o0, .inr (5, [.int th, .int dy, .int me, .int co, .int (nI np), .int ca, .int br, .int ml, .ref o1, .ref o2, .ref o3, .ref o4, .ref o5, .ref o6, .int (nI k), .ref o7, .ref o8])), (o6, zI Z 6 E), (o7, zI Z 29 tk1), (o8, zI Z 29 (upd lf1 (sf lf1 t k i) ((lf1 (sf lf1 t k i)) - (nI 1))))] _ _ := hW
              refine lv_aload_n hx hb dX5_compose_74 rfl (lv_at hl 3 rfl) ?_
              refine z_get (C := RX5) (T := TX5) (N := 17) hx hb hts mw_X5_compose_1 hown hX hW 0 rfl rfl 15 (by decide) mw_X5_compose_0 (fun _ h9 => h9) rfl dX5_compose_75 ?_
              refine lv_iload_n hx hb dX5_compose_78 rfl (lv_at hl 1 rfl) ?_
              refine lv_dup2_11 hx hb dX5_compose_79 rfl rfl ?_
              refine z_iald hx hb hX hW 2 rfl (k := (sf lf1 t k i)) (by omega) (hs9.1) dX5_compose_80 ?_
              refine lv_iconst (v := nI 1) hx hb dX5_compose_81 (by decide) ?_
              refine lv_iadd hx hb dX5_compose_82 ?_
              refine z_iast hx hb hX hW 2 rfl (k := (sf lf1 t k i)) (by omega) (hs9.1) dX5_compose_83 (fun H locs hW => ?_)
              have hW : zW Z s A [(o0, .inr (5, [.int th, .int dy, .int me, .int co, .int (nI np), .int ca, .int br, .int ml, .ref o1, .ref o2, .ref o3, .ref o4, .ref o5, .ref o6, .int (nI k), .ref o7, .ref o8])), (o6, zI Z 6 E), (o7, zI Z 29 (upd tk1 (sf lf1 t k i) ((tk1 (sf lf1 t k i)) + (nI 1)))), (o8, zI Z 29 (upd lf1 (sf lf1 t k i) ((lf1 (sf lf1 t k i)) - (nI 1))))] _ _ := hW
              refine lv_iinc (v := nI (x + 1)) (lv' := [(1, .int (nI (x + 1))), (2, .int (nI (i + 1))), (3, .int (nI (sf lf1 t k i))), (0, .ref o0)]) hx hb dX5_compose_84 hl (k := 2) rfl (zinc1 _) (by decide) rfl (fun ls hl => ?_)
              refine lv_iinc (v := nI (i + 1 + 1)) (lv' := [(2, .int (nI (i + 1 + 1))), (1, .int (nI (x + 1))), (3, .int (nI (sf lf1 t k i))), (0, .ref o0)]) hx hb dX5_compose_87 hl (k := 1) rfl (zinc1 _) (by decide) rfl (fun ls hl => ?_)
              refine lv_goto (tgt := 12) hx hb dX5_compose_90 (by decide) ?_
              have hl : lv_has ls 4 [(2, .int (nI (i + 2))), (1, .int (nI (x + 1))), (0, .ref o0)] := lv_sub hl [0, 1, 3] rfl
              exact ih_12 (i + 2) (x + 1) (nq - 1) (upd lf1 (sf lf1 t k i) ((lf1 (sf lf1 t k i)) - (nI 1))) (upd tk1 (sf lf1 t k i) ((tk1 (sf lf1 t k i)) + (nI 1))) (by omega) (by omega) (by rw [hE]; first | exact ly_1 hik hf9 hge hlg | exact ly_2 hik hf9 hge hlg) (nn_dec hnn1 hs9.1 hge) (by omega) _ _ _ hW hl
            · have hlt : lf1 (sf lf1 t k i) < nI 1 := by rw [c_59]; decide
              refine lv_iconst (v := -1) hx hb dX5_compose_62 (by decide) ?_
              exact z_iret hx hb hr hlk hW () (by unfold po_X5_compose; rw [hE, ly_no hik hf9 hlt]) (by unfold wp_X5_compose; rw [hE, ly_no hik hf9 hlt]) (by omega) (by omega) dX5_compose_63
          · refine lv_aload_n hx hb dX5_compose_40 rfl (lv_at hl 3 rfl) ?_
            refine z_get (C := RX5) (T := TX5) (N := 17) hx hb hts mw_X5_compose_1 hown hX hW 0 rfl rfl 13 (by decide) mw_X5_compose_3 (fun _ h9 => h9) rfl dX5_compose_41 ?_
            refine lv_iload_n hx hb dX5_compose_44 rfl (lv_at hl 1 rfl) ?_
            refine z_iald hx hb hX hW 1 rfl (k := i) (by omega) (by omega) dX5_compose_45 ?_
            refine zw_topi (y := (nI (t i))) (hw9.2.2.2 i hik) ?_
            refine lv_istore_n (lv' := [(3, .int (nI (t i))), (2, .int (nI i)), (1, .int (nI x)), (0, .ref o0)]) hx hb dX5_compose_46 rfl hl (by decide) rfl (fun ls hl => ?_)
            refine lv_goto (tgt := 53) hx hb dX5_compose_47 (by decide) ?_
            have hsf : sf lf1 t k i = t i := sf_let (by first | exact Or.inl hz | exact Or.inr (by rw [c_37]; exact Int32.le_refl 0))
            have hlg : sf lf1 t k i < 26 := by rw [hsf]; exact hw9.2.2.1 i hik
            have hl : lv_has ls 4 [(3, .int (nI (sf lf1 t k i))), (2, .int (nI i)), (1, .int (nI x)), (0, .ref o0)] := by rw [hsf]; exact hl
            have hs9 := sf_in (lf := lf1) hw9.2.2.1 hik
            refine lv_aload_n hx hb dX5_compose_53 rfl (lv_at hl 3 rfl) ?_
            refine z_get (C := RX5) (T := TX5) (N := 17) hx hb hts mw_X5_compose_1 hown hX hW 0 rfl rfl 16 (by decide) mw_X5_compose_4 (fun _ h9 => h9) rfl dX5_compose_54 ?_
            refine lv_iload_n hx hb dX5_compose_57 rfl (lv_at hl 0 rfl) ?_
            refine z_iald hx hb hX hW 3 rfl (k := (sf lf1 t k i)) (by omega) (hs9.1) dX5_compose_58 ?_
            refine lv_if_ne (tgt := 64) hx hb dX5_compose_59 (by decide) (fun c_59 => ?_) (fun c_59 => ?_)
            · have hge := nn_ge (hnn1 _ hs9.1) c_59
              have hs8 := hs9.2
              refine lv_aload_n hx hb dX5_compose_64 rfl (lv_at hl 3 rfl) ?_
              refine z_get (C := RX5) (T := TX5) (N := 17) hx hb hts mw_X5_compose_1 hown hX hW 0 rfl rfl 16 (by decide) mw_X5_compose_4 (fun _ h9 => h9) rfl dX5_compose_65 ?_
              refine lv_iload_n hx hb dX5_compose_68 rfl (lv_at hl 0 rfl) ?_
              refine lv_dup2_11 hx hb dX5_compose_69 rfl rfl ?_
              refine z_iald hx hb hX hW 3 rfl (k := (sf lf1 t k i)) (by omega) (hs9.1) dX5_compose_70 ?_
              refine lv_iconst (v := nI 1) hx hb dX5_compose_71 (by decide) ?_
              refine lv_isub hx hb dX5_compose_72 ?_
              refine z_iast hx hb hX hW 3 rfl (k := (sf lf1 t k i)) (by omega) (hs9.1) dX5_compose_73 (fun H locs hW => ?_)
              have hW : zW Z s A [(o0, .inr (5, [.int th, .int dy, .int me, .int co, .int (nI np), .int ca, .int br, .int ml, .ref o1, .ref o2, .ref o3, .ref o4, .ref o5, .ref o6, .int (nI k), .ref o7, .ref o8])), (o6, zI Z 6 E), (o7, zI Z 29 tk1), (o8, zI Z 29 (upd lf1 (sf lf1 t k i) ((lf1 (sf lf1 t k i)) - (nI 1))))] _ _ := hW
              refine lv_aload_n hx hb dX5_compose_74 rfl (lv_at hl 3 rfl) ?_
              refine z_get (C := RX5) (T := TX5) (N := 17) hx hb hts mw_X5_compose_1 hown hX hW 0 rfl rfl 15 (by decide) mw_X5_compose_0 (fun _ h9 => h9) rfl dX5_compose_75 ?_
              refine lv_iload_n hx hb dX5_compose_78 rfl (lv_at hl 0 rfl) ?_
              refine lv_dup2_11 hx hb dX5_compose_79 rfl rfl ?_
              refine z_iald hx hb hX hW 2 rfl (k := (sf lf1 t k i)) (by omega) (hs9.1) dX5_compose_80 ?_
              refine lv_iconst (v := nI 1) hx hb dX5_compose_81 (by decide) ?_
              refine lv_iadd hx hb dX5_compose_82 ?_
              refine z_iast hx hb hX hW 2 rfl (k := (sf lf1 t k i)) (by omega) (hs9.1) dX5_compose_83 (fun H locs hW => ?_)
              have hW : zW Z s A [(o0, .inr (5, [.int th, .int dy, .int me, .int co, .int (nI np), .int ca, .int br, .int ml, .ref o1, .ref o2, .ref o3, .ref o4, .ref o5, .ref o6, .int (nI k), .ref o7, .ref o8])), (o6, zI Z 6 E), (o7, zI Z 29 (upd tk1 (sf lf1 t k i) ((tk1 (sf lf1 t k i)) + (nI 1)))), (o8, zI Z 29 (upd lf1 (sf lf1 t k i) ((lf1 (sf lf1 t k i)) - (nI 1))))] _ _ := hW
              refine lv_iinc (v := nI (x + 1)) (lv' := [(1, .int (nI (x + 1))), (3, .int (nI (sf lf1 t k i))), (2, .int (nI i)), (0, .ref o0)]) hx hb dX5_compose_84 hl (k := 2) rfl (zinc1 _) (by decide) rfl (fun ls hl => ?_)
              refine lv_iinc (v := nI (i + 1)) (lv' := [(2, .int (nI (i + 1))), (1, .int (nI (x + 1))), (3, .int (nI (sf lf1 t k i))), (0, .ref o0)]) hx hb dX5_compose_87 hl (k := 2) rfl (zinc1 _) (by decide) rfl (fun ls hl => ?_)
              refine lv_goto (tgt := 12) hx hb dX5_compose_90 (by decide) ?_
              have hl : lv_has ls 4 [(2, .int (nI (i + 1))), (1, .int (nI (x + 1))), (0, .ref o0)] := lv_sub hl [0, 1, 3] rfl
              exact ih_12 (i + 1) (x + 1) (nq - 1) (upd lf1 (sf lf1 t k i) ((lf1 (sf lf1 t k i)) - (nI 1))) (upd tk1 (sf lf1 t k i) ((tk1 (sf lf1 t k i)) + (nI 1))) (by omega) (by omega) (by rw [hE]; first | exact ly_1 hik hf9 hge hlg | exact ly_2 hik hf9 hge hlg) (nn_dec hnn1 hs9.1 hge) (by omega) _ _ _ hW hl
            · have hlt : lf1 (sf lf1 t k i) < nI 1 := by rw [c_59]; decide
              refine lv_iconst (v := -1) hx hb dX5_compose_62 (by decide) ?_
              exact z_iret hx hb hr hlk hW () (by unfold po_X5_compose; rw [hE, ly_no hik hf9 hlt]) (by unfold wp_X5_compose; rw [hE, ly_no hik hf9 hlt]) (by omega) (by omega) dX5_compose_63
  have hl : lv_has ls 4 [(2, .int (nI 0)), (1, .int (nI 0)), (0, .ref o0)] := lv_sub hl [0, 1, 2] rfl
  exact loop_12 _ 0 0 6 Lf (fun _ => (nI 0)) (by omega) (by omega) rfl hnn (Nat.lt_succ_self _) _ _ _ hW hl
