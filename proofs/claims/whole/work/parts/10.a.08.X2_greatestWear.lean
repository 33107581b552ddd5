theorem mw_X2_greatestWear_0 : Cond.fieldLink RX2 9 "TypeFoundry$Sorts" "numbers" "[I" ∈ wsX2_greatestWear := by decide +kernel
theorem mw_X2_greatestWear_1 : ∀ w ∈ wsX20, w ∈ wsX2_greatestWear := by decide +kernel
theorem mw_X2_greatestWear_2 : Cond.methodLink RX2 19 Lib.Math.max.name ∈ wsX2_greatestWear := by decide +kernel
theorem mw_X2_greatestWear_3 : Cond.static Lib.Math.max.name ∈ wsX2_greatestWear := by decide +kernel
theorem mw_X2_greatestWear_4 : Cond.initialized "java/lang/Math" ∈ wsX2_greatestWear := by decide +kernel
theorem mw_X2_greatestWear_5 : Cond.code Lib.Math.max.name Lib.Math.max.code 2 (some .int) ∈ wsX2_greatestWear := by decide +kernel
abbrev wp_X2_greatestWear (Z : zT) (a b : Nat) (f : Nat → Int32) : Unit → va_W := fun (u : Unit) => [(a, .inr (2, [.ref b])), (b, zI Z 290 f)]
abbrev po_X2_greatestWear (Z : zT) (a b : Nat) (f : Nat → Int32) : Int32 → Unit → Prop := fun (r : Int32) (u : Unit) => r = gw f 290
abbrev rm_X2_greatestWear : Room := { frames := 1, cells := 0, slots := 0, locals := 13 }
set_option maxHeartbeats 4000000 in
set_option maxRecDepth 100000 in
theorem c_X2_greatestWear (l : Launch) (Z : zT) (a b : Nat) (f : Nat → Int32)  : zMet l yX2_greatestWear wsX2_greatestWear rm_X2_greatestWear [.ref a] Z [(a, .inr (2, [.ref b])), (b, zI Z 290 f)] (zQi Z (po_X2_greatestWear Z a b f) (wp_X2_greatestWear Z a b f)) 0 0 := by
  refine zstart (cc := cX2_greatestWear) (maxL := 3) (ret := (some .int)) (by decide) rfl (Nat.le_of_ble_eq_true rfl) ?_
  intro p e s m below meth c ls A hx hb hr hC hlk hnm hX hW hl
  have hml := hC.2.2.1
  have hown : s.vm.findClass RX2 = some m.cls := hC.2.2.2.1
  have hts := hC.2.2.2.2
  have hl : lv_has ls 3 [(0, .ref a)] := hl
  refine lv_iconst (v := -1) hx hb dX2_greatestWear_0 (by decide) ?_
  refine lv_istore_n (lv' := [(1, .int (-1)), (0, .ref a)]) hx hb dX2_greatestWear_1 rfl hl (by decide) rfl (fun ls hl => ?_)
  refine lv_iconst (v := nI 0) hx hb dX2_greatestWear_2 (by decide) ?_
  refine lv_istore_n (lv' := [(2, .int (nI 0)), (1, .int (-1)), (0, .ref a)]) hx hb dX2_greatestWear_3 rfl hl (by decide) rfl (fun ls hl => ?_)
  have loop_4 : ∀ (n : Nat) (j : Nat) (x : Int32), (j ≤ 290) → (x = gw f j) → (290 - j < n) → ∀ (H : Heap) (locs : List Loc) (ls : Array Slot), zW Z s A [(a, .inr (2, [.ref b])), (b, zI Z 290 f)] H locs → lv_has ls 3 [(2, .int (nI j)), (1, .int x), (0, .ref a)] → W p l e rm_X2_greatestWear s m ([.ref a] : List Value).toArray below meth c H locs 0 0 (MQ below (zQi Z (po_X2_greatestWear Z a b f) (wp_X2_greatestWear Z a b f) A) ([.ref a] : List Value).toArray s 0 0 A) (F0 m 4 ls []) := by
    intro n
    induction n with
    | zero =>
      intro j x hj hx9 hm
      exact absurd hm (Nat.not_lt_zero _)
    | succ n ih =>
      intro j x hj hx9 hm H locs ls hW hl
      have ih_4 := ih
      refine lv_iload_n hx hb dX2_greatestWear_4 rfl (lv_at hl 0 rfl) ?_
      refine lv_aload_n hx hb dX2_greatestWear_5 rfl (lv_at hl 2 rfl) ?_
      refine z_get (C := RX2) (T := TX2) (N := 1) hx hb hts mw_X2_greatestWear_1 hown hX hW 0 rfl rfl 0 (by decide) mw_X2_greatestWear_0 (fun _ h9 => h9) rfl dX2_greatestWear_6 ?_
      refine z_alen hx hb hX hW 1 rfl dX2_greatestWear_9 ?_
      refine zn_icmp_ge (tgt := 37) (a := j) (b := 290) hx hb (by omega) (by omega) dX2_greatestWear_10 (by decide) (fun c_10 => ?_) (fun c_10 => ?_)
      · refine lv_iload_n hx hb dX2_greatestWear_37 rfl (lv_at hl 1 rfl) ?_
        exact z_iret hx hb hr hlk hW () (by rw [hx9, show j = 290 by omega]) (rfl) (by omega) (by omega) dX2_greatestWear_38
      · refine lv_aload_n hx hb dX2_greatestWear_13 rfl (lv_at hl 2 rfl) ?_
        refine z_get (C := RX2) (T := TX2) (N := 1) hx hb hts mw_X2_greatestWear_1 hown hX hW 0 rfl rfl 0 (by decide) mw_X2_greatestWear_0 (fun _ h9 => h9) rfl dX2_greatestWear_14 ?_
        refine lv_iload_n hx hb dX2_greatestWear_17 rfl (lv_at hl 0 rfl) ?_
        refine z_iald hx hb hX hW 1 rfl (k := j) (by omega) (by omega) dX2_greatestWear_18 ?_
        refine lv_if_le (tgt := 31) hx hb dX2_greatestWear_19 (by decide) (fun c_19 => ?_) (fun c_19 => ?_)
        · have hg9 := Int32.not_lt.mpr c_19
          refine lv_iinc (v := nI (j + 1)) (lv' := [(2, .int (nI (j + 1))), (1, .int x), (0, .ref a)]) hx hb dX2_greatestWear_31 hl (k := 0) rfl (zinc1 _) (by decide) rfl (fun ls hl => ?_)
          refine lv_goto (tgt := 4) hx hb dX2_greatestWear_34 (by decide) ?_
          have hl : lv_has ls 3 [(2, .int (nI (j + 1))), (1, .int x), (0, .ref a)] := lv_sub hl [0, 1, 2] rfl
          exact ih_4 (j + 1) x (by omega) (by subst hx9; first | exact gw_t hg9 | exact gw_f hg9) (by omega) _ _ _ hW hl
        · have hg9 := Int32.not_le.mp c_19
          refine lv_iload_n hx hb dX2_greatestWear_22 rfl (lv_at hl 1 rfl) ?_
          refine lv_iload_n hx hb dX2_greatestWear_23 rfl (lv_at hl 0 rfl) ?_
          refine lv_bipush (v := nI 10) hx hb dX2_greatestWear_24 (by decide) ?_
          refine lv_irem hx hb dX2_greatestWear_26 (by decide) ?_
          refine zw_topi (pk_rem (by omega) (by omega) (by omega)) ?_
          refine va_mmax hx hb (hml.trans hl.1.symm) hown (hts _ mw_X2_greatestWear_2) (hts _ mw_X2_greatestWear_3) (hts _ mw_X2_greatestWear_4) (hts _ mw_X2_greatestWear_5) (Nat.le_of_ble_eq_true rfl) (Nat.le_of_ble_eq_true rfl) (Nat.le_of_ble_eq_true rfl) (Nat.le_of_ble_eq_true rfl) dX2_greatestWear_27 ?_
          refine lv_istore_n (lv' := [(1, .int (if x < nI (j % 10) then nI (j % 10) else x)), (2, .int (nI j)), (0, .ref a)]) hx hb dX2_greatestWear_30 rfl hl (by decide) rfl (fun ls hl => ?_)
          refine lv_iinc (v := nI (j + 1)) (lv' := [(2, .int (nI (j + 1))), (1, .int (if x < nI (j % 10) then nI (j % 10) else x)), (0, .ref a)]) hx hb dX2_greatestWear_31 hl (k := 1) rfl (zinc1 _) (by decide) rfl (fun ls hl => ?_)
          refine lv_goto (tgt := 4) hx hb dX2_greatestWear_34 (by decide) ?_
          have hl : lv_has ls 3 [(2, .int (nI (j + 1))), (1, .int (if x < nI (j % 10) then nI (j % 10) else x)), (0, .ref a)] := lv_sub hl [0, 1, 2] rfl
          exact ih_4 (j + 1) (if x < nI (j % 10) then nI (j % 10) else x) (by omega) (by subst hx9; first | exact gw_t hg9 | exact gw_f hg9) (by omega) _ _ _ hW hl
  have hl : lv_has ls 3 [(2, .int (nI 0)), (1, .int (-1)), (0, .ref a)] := lv_sub hl [0, 1, 2] rfl
  exact loop_4 _ 0 (-1) (by omega) rfl (Nat.lt_succ_self _) _ _ _ hW hl
