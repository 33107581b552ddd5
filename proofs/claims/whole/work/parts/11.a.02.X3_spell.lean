theorem mw_X3_spell_0 : Cond.constant RX3 19 (387420488) ∈ wsX3_spell := by decide +kernel
theorem mw_X3_spell_1 : Cond.fieldLink RX3 9 "TypeFoundry$Word" "letters" "[I" ∈ wsX3_spell := by decide +kernel
theorem mw_X3_spell_2 : ∀ w ∈ wsX30, w ∈ wsX3_spell := by decide +kernel
theorem mw_X3_spell_3 : Cond.fieldLink RX3 15 "TypeFoundry$Word" "firstPlace" "I" ∈ wsX3_spell := by decide +kernel
abbrev wp_X3_spell (Z : zT) (a b : Nat) (L : Nat → Int32) (fp : Int32) (x : Int32) : (Nat → Int32) × Int32 → va_W := fun (u : (Nat → Int32) × Int32) => match u with | (L1, fp1) => [(a, .inr (3, [.ref b, .int fp1])), (b, zI Z 6 L1)]
abbrev po_X3_spell (Z : zT) (a b : Nat) (L : Nat → Int32) (fp : Int32) (x : Int32) : Int32 → (Nat → Int32) × Int32 → Prop := fun (r : Int32) (u : (Nat → Int32) × Int32) => match u with | (L1, fp1) => (r = nI 1 ∧ ∃ v k, v < 2 ^ 31 ∧ x = nI v ∧ wdk v k ∧ fp1 = nI (6 - k) ∧ wdC k (wl v k) L1) ∨ (r = nI 0 ∧ ¬ isW x)
abbrev rm_X3_spell : Room := { frames := 0, cells := 0, slots := 0, locals := 0 }
set_option maxHeartbeats 4000000 in
set_option maxRecDepth 100000 in
theorem c_X3_spell (l : Launch) (Z : zT) (a b : Nat) (L : Nat → Int32) (fp : Int32) (x : Int32)  : zMet l yX3_spell wsX3_spell rm_X3_spell [.ref a, .int x] Z [(a, .inr (3, [.ref b, .int fp])), (b, zI Z 6 L)] (zQi Z (po_X3_spell Z a b L fp x) (wp_X3_spell Z a b L fp x)) 0 0 := by
  refine zstart (cc := cX3_spell) (maxL := 5) (ret := (some .boolean)) (by decide) rfl (Nat.le_of_ble_eq_true rfl) ?_
  intro p e s m below meth c ls A hx hb hr hC hlk hnm hX hW hl
  have hml := hC.2.2.1
  have hown : s.vm.findClass RX3 = some m.cls := hC.2.2.2.1
  have hts := hC.2.2.2.2
  have hl : lv_has ls 5 [(0, .ref a), (1, .int x)] := hl
  refine lv_iload_n hx hb dX3_spell_0 rfl (lv_at hl 1 rfl) ?_
  refine lv_iconst (v := nI 1) hx hb dX3_spell_1 (by decide) ?_
  refine lv_icmp_lt (tgt := 11) hx hb dX3_spell_2 (by decide) (fun c_2 => ?_) (fun c_2 => ?_)
  · refine lv_iconst (v := nI 0) hx hb dX3_spell_11 (by decide) ?_
    exact z_zret hx hb hr hlk (rfl) hW (L, fp) (Or.inr ⟨rfl, by first | exact isW_lo c_2 | exact isW_hi c_8⟩) (rfl) (by omega) (by omega) dX3_spell_12
  · refine lv_iload_n hx hb dX3_spell_5 rfl (lv_at hl 1 rfl) ?_
    refine lv_ldc (own := RX3) (v := nI 387420488) hx hb hown (hts _ mw_X3_spell_0) dX3_spell_6 ?_
    refine lv_icmp_le (tgt := 13) hx hb dX3_spell_8 (by decide) (fun c_8 => ?_) (fun c_8 => ?_)
    · obtain ⟨v, hv1, hv2, hxv⟩ := zrange c_2 c_8
      have hl : lv_has ls 5 [(0, .ref a), (1, .int (nI v))] := by rw [← hxv]; exact hl
      refine lv_iload_n hx hb dX3_spell_13 rfl (lv_at hl 1 rfl) ?_
      refine lv_istore_n (lv' := [(2, .int (nI v)), (0, .ref a), (1, .int (nI v))]) hx hb dX3_spell_14 rfl hl (by decide) rfl (fun ls hl => ?_)
      refine lv_iconst (v := nI 5) hx hb dX3_spell_15 (by decide) ?_
      refine lv_istore_n (lv' := [(3, .int (nI 5)), (2, .int (nI v)), (0, .ref a), (1, .int (nI v))]) hx hb dX3_spell_16 rfl hl (by decide) rfl (fun ls hl => ?_)
      have loop_17 : ∀ (n : Nat) (j : Nat) (rs : Nat) (K : Nat → Int32) (y : Int32), (j ≤ 6) → (rs = v / 27 ^ j) → (spl v j K y) → (6 - j < n) → ∀ (H : Heap) (locs : List Loc) (ls : Array Slot), zW Z s A [(a, .inr (3, [.ref b, .int y])), (b, zI Z 6 K)] H locs → lv_has ls 5 [(3, .int (w5 j)), (2, .int (nI rs)), (0, .ref a), (1, .int (nI v))] → W p l e rm_X3_spell s m ([.ref a, .int x] : List Value).toArray below meth c H locs 0 0 (MQ below (zQi Z (po_X3_spell Z a b L fp x) (wp_X3_spell Z a b L fp x) A) ([.ref a, .int x] : List Value).toArray s 0 0 A) (F0 m 17 ls []) := by
        intro n
        induction n with
        | zero =>
          intro j rs K y hj hrs hsp hm
          exact absurd hm (Nat.not_lt_zero _)
        | succ n ih =>
          intro j rs K y hj hrs hsp hm H locs ls hW hl
          have ih_17 := ih
          have hrv : rs ≤ v := by rw [hrs]; exact Nat.div_le_self _ _
          rcases Nat.lt_or_ge j 6 with hj6 | hj6
          · rw [w5_lt hj6] at hl
            have hl : lv_has ls 5 [(3, .int (nI (5 - j))), (2, .int (nI rs)), (0, .ref a), (1, .int (nI v))] := hl
            refine lv_iload_n hx hb dX3_spell_17 rfl (lv_at hl 0 rfl) ?_
            refine zn_if_lt (tgt := 64) (a := (5 - j)) hx hb (by omega) dX3_spell_18 (by decide) ?_
            refine lv_iload_n hx hb dX3_spell_21 rfl (lv_at hl 1 rfl) ?_
            refine zn_if_le (tgt := 64) (a := rs) hx hb (by omega) dX3_spell_22 (by decide) (fun c_22 => ?_) (fun c_22 => ?_)
            · have hz9 : v / 27 ^ j = 0 := by rw [← hrs]; exact c_22
              refine lv_iconst (v := nI 1) hx hb dX3_spell_64 (by decide) ?_
              exact z_zret hx hb hr hlk (rfl) hW (K, y) ((Or.inl ⟨rfl, v, j, by omega, hxv, spl_end hsp hv1 hj hz9⟩)) (rfl) (by omega) (by omega) dX3_spell_65
            · refine lv_iload_n hx hb dX3_spell_25 rfl (lv_at hl 1 rfl) ?_
              refine lv_bipush (v := nI 27) hx hb dX3_spell_26 (by decide) ?_
              refine lv_irem hx hb dX3_spell_28 (by decide) ?_
              refine zw_topi (pk_rem (by omega) (by omega) (by omega)) ?_
              refine lv_istore (lv' := [(4, .int (nI (rs % 27))), (3, .int (nI (5 - j))), (2, .int (nI rs)), (0, .ref a), (1, .int (nI v))]) hx hb dX3_spell_29 hl (by decide) rfl (fun ls hl => ?_)
              refine lv_iload hx hb dX3_spell_31 (lv_at hl 0 rfl) ?_
              refine zn_if_ne (tgt := 38) (a := (rs % 27)) hx hb (by omega) dX3_spell_33 (by decide) (fun c_33 => ?_) (fun c_33 => ?_)
              · refine lv_aload_n hx hb dX3_spell_38 rfl (lv_at hl 3 rfl) ?_
                refine z_get (C := RX3) (T := TX3) (N := 2) hx hb hts mw_X3_spell_2 hown hX hW 0 rfl rfl 0 (by decide) mw_X3_spell_1 (fun _ h9 => h9) rfl dX3_spell_39 ?_
                refine lv_iload_n hx hb dX3_spell_42 rfl (lv_at hl 1 rfl) ?_
                refine lv_iload hx hb dX3_spell_43 (lv_at hl 0 rfl) ?_
                refine lv_iconst (v := nI 1) hx hb dX3_spell_45 (by decide) ?_
                refine lv_isub hx hb dX3_spell_46 ?_
                refine zw_topi (y := (nI (rs % 27 - 1))) (pk_sub (by omega)) ?_
                refine z_iast hx hb hX hW 1 rfl (k := (5 - j)) (by omega) (by omega) dX3_spell_47 (fun H locs hW => ?_)
                have hW : zW Z s A [(a, .inr (3, [.ref b, .int y])), (b, zI Z 6 (upd K (5 - j) (nI (rs % 27 - 1))))] _ _ := hW
                refine lv_aload_n hx hb dX3_spell_48 rfl (lv_at hl 3 rfl) ?_
                refine lv_iload_n hx hb dX3_spell_49 rfl (lv_at hl 1 rfl) ?_
                refine z_put (C := RX3) (T := TX3) (N := 2) (v := .int (nI (5 - j))) (ty := .int) hx hb hts mw_X3_spell_2 tyX3 tyX3_ok nmX3 hown hX hW 0 rfl rfl 1 (by decide) mw_X3_spell_3 (fun _ h9 => h9) rfl (by decide +kernel) rfl rfl (Nat.le_of_ble_eq_true rfl) dX3_spell_50 (fun H locs hW => ?_)
                have hW : zW Z s A [(a, .inr (3, [.ref b, .int (nI (5 - j))])), (b, zI Z 6 (upd K (5 - j) (nI (rs % 27 - 1))))] _ _ := hW
                refine lv_iload_n hx hb dX3_spell_53 rfl (lv_at hl 2 rfl) ?_
                refine lv_bipush (v := nI 27) hx hb dX3_spell_54 (by decide) ?_
                refine lv_idiv hx hb dX3_spell_56 (by decide) ?_
                refine zw_topi (pk_div (by omega) (by omega) (by omega)) ?_
                refine lv_istore_n (lv' := [(2, .int (nI (rs / 27))), (4, .int (nI (rs % 27))), (3, .int (nI (5 - j))), (0, .ref a), (1, .int (nI v))]) hx hb dX3_spell_57 rfl hl (by decide) rfl (fun ls hl => ?_)
                refine lv_iinc (v := w5 (j + 1)) (lv' := [(3, .int (w5 (j + 1))), (2, .int (nI (rs / 27))), (4, .int (nI (rs % 27))), (0, .ref a), (1, .int (nI v))]) hx hb dX3_spell_58 hl (k := 2) rfl (w5_s hj6) (by decide) rfl (fun ls hl => ?_)
                refine lv_goto (tgt := 17) hx hb dX3_spell_61 (by decide) ?_
                have hl : lv_has ls 5 [(3, .int (w5 (j + 1))), (2, .int (nI (rs / 27))), (0, .ref a), (1, .int (nI v))] := lv_sub hl [0, 1, 3, 4] rfl
                exact ih_17 (j + 1) (rs / 27) (upd K (5 - j) (nI (rs % 27 - 1))) (nI (5 - j)) (by omega) (by rw [hrs, Nat.div_div_eq_div_mul, Nat.pow_succ]) (spl_r hsp hj6 hrs c_33) (by omega) _ _ _ hW hl
              · refine lv_iconst (v := nI 0) hx hb dX3_spell_36 (by decide) ?_
                exact z_zret hx hb hr hlk (rfl) hW (K, y) (Or.inr ⟨rfl, fun ⟨v9, k9, h1, h2, h3⟩ => by have h4 : v9 = v := (nI_eq h1 (by omega)).mp (h2.symm.trans hxv); subst h4; exact wdk_no (by rw [← c_33, hrs]; rfl) (by rw [← hrs]; omega) k9 h3⟩) (rfl) (by omega) (by omega) dX3_spell_37
          · rw [w5_ge hj6] at hl
            have hl : lv_has ls 5 [(3, .int (-1)), (2, .int (nI rs)), (0, .ref a), (1, .int (nI v))] := hl
            refine lv_iload_n hx hb dX3_spell_17 rfl (lv_at hl 0 rfl) ?_
            refine lv_if_lt (tgt := 64) hx hb dX3_spell_18 (by decide) (fun c_18 => ?_) (fun c_18 => absurd (by decide) c_18)
            have hz9 : v / 27 ^ j = 0 := by
              have : v / 27 ^ 6 = 0 := by show v / 387420489 = 0; omega
              exact zdiv0 this hj6
            refine lv_iconst (v := nI 1) hx hb dX3_spell_64 (by decide) ?_
            exact z_zret hx hb hr hlk (rfl) hW (K, y) ((Or.inl ⟨rfl, v, j, by omega, hxv, spl_end hsp hv1 hj hz9⟩)) (rfl) (by omega) (by omega) dX3_spell_65
      have hl : lv_has ls 5 [(3, .int (w5 0)), (2, .int (nI v)), (0, .ref a), (1, .int (nI v))] := lv_sub hl [0, 1, 2, 3] rfl
      exact loop_17 _ 0 v L fp (by omega) (by simp) (spl_0 v _ _) (Nat.lt_succ_self _) _ _ _ hW hl
    · refine lv_iconst (v := nI 0) hx hb dX3_spell_11 (by decide) ?_
      exact z_zret hx hb hr hlk (rfl) hW (L, fp) (Or.inr ⟨rfl, by first | exact isW_lo c_2 | exact isW_hi c_8⟩) (rfl) (by omega) (by omega) dX3_spell_12
