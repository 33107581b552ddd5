theorem mw_X2_wearInAll_0 : Cond.fieldLink RX2 9 "TypeFoundry$Sorts" "numbers" "[I" ∈ wsX2_wearInAll := by decide +kernel
theorem mw_X2_wearInAll_1 : ∀ w ∈ wsX20, w ∈ wsX2_wearInAll := by decide +kernel
abbrev wp_X2_wearInAll (Z : zT) (a b : Nat) (f : Nat → Int32) : Unit → va_W := fun (u : Unit) => [(a, .inr (2, [.ref b])), (b, zI Z 290 f)]
abbrev po_X2_wearInAll (Z : zT) (a b : Nat) (f : Nat → Int32) : Int32 → Unit → Prop := fun (r : Int32) (u : Unit) => r = bx_sum (wr f) 290
abbrev rm_X2_wearInAll : Room := { frames := 0, cells := 0, slots := 0, locals := 0 }
set_option maxHeartbeats 4000000 in
set_option maxRecDepth 100000 in
theorem c_X2_wearInAll (l : Launch) (Z : zT) (a b : Nat) (f : Nat → Int32)  : zMet l yX2_wearInAll wsX2_wearInAll rm_X2_wearInAll [.ref a] Z [(a, .inr (2, [.ref b])), (b, zI Z 290 f)] (zQi Z (po_X2_wearInAll Z a b f) (wp_X2_wearInAll Z a b f)) 0 0 := by
  refine zstart (cc := cX2_wearInAll) (maxL := 3) (ret := (some .int)) (by decide) rfl (Nat.le_of_ble_eq_true rfl) ?_
  intro p e s m below meth c ls A hx hb hr hC hlk hnm hX hW hl
  have hml := hC.2.2.1
  have hown : s.vm.findClass RX2 = some m.cls := hC.2.2.2.1
  have hts := hC.2.2.2.2
  have hl : lv_has ls 3 [(0, .ref a)] := hl
  refine lv_iconst (v := nI 0) hx hb dX2_wearInAll_0 (by decide) ?_
  refine lv_istore_n (lv' := [(1, .int (nI 0)), (0, .ref a)]) hx hb dX2_wearInAll_1 rfl hl (by decide) rfl (fun ls hl => ?_)
  refine lv_iconst (v := nI 0) hx hb dX2_wearInAll_2 (by decide) ?_
  refine lv_istore_n (lv' := [(2, .int (nI 0)), (1, .int (nI 0)), (0, .ref a)]) hx hb dX2_wearInAll_3 rfl hl (by decide) rfl (fun ls hl => ?_)
  have loop_4 : ∀ (n : Nat) (j : Nat), (j ≤ 290) → (290 - j < n) → ∀ (H : Heap) (locs : List Loc) (ls : Array Slot), zW Z s A [(a, .inr (2, [.ref b])), (b, zI Z 290 f)] H locs → lv_has ls 3 [(2, .int (nI j)), (1, .int (bx_sum (wr f) j)), (0, .ref a)] → W p l e rm_X2_wearInAll s m ([.ref a] : List Value).toArray below meth c H locs 0 0 (MQ below (zQi Z (po_X2_wearInAll Z a b f) (wp_X2_wearInAll Z a b f) A) ([.ref a] : List Value).toArray s 0 0 A) (F0 m 4 ls []) := by
    intro n
    induction n with
    | zero =>
      intro j hj hm
      exact absurd hm (Nat.not_lt_zero _)
    | succ n ih =>
      intro j hj hm H locs ls hW hl
      have ih_4 := ih
      refine lv_iload_n hx hb dX2_wearInAll_4 rfl (lv_at hl 0 rfl) ?_
      refine lv_aload_n hx hb dX2_wearInAll_5 rfl (lv_at hl 2 rfl) ?_
      refine z_get (C := RX2) (T := TX2) (N := 1) hx hb hts mw_X2_wearInAll_1 hown hX hW 0 rfl rfl 0 (by decide) mw_X2_wearInAll_0 (fun _ h9 => h9) rfl dX2_wearInAll_6 ?_
      refine z_alen hx hb hX hW 1 rfl dX2_wearInAll_9 ?_
      refine zn_icmp_ge (tgt := 33) (a := j) (b := 290) hx hb (by omega) (by omega) dX2_wearInAll_10 (by decide) (fun c_10 => ?_) (fun c_10 => ?_)
      · refine lv_iload_n hx hb dX2_wearInAll_33 rfl (lv_at hl 1 rfl) ?_
        exact z_iret hx hb hr hlk hW () (by rw [show j = 290 by omega]) (rfl) (by omega) (by omega) dX2_wearInAll_34
      · refine lv_iload_n hx hb dX2_wearInAll_13 rfl (lv_at hl 1 rfl) ?_
        refine lv_aload_n hx hb dX2_wearInAll_14 rfl (lv_at hl 2 rfl) ?_
        refine z_get (C := RX2) (T := TX2) (N := 1) hx hb hts mw_X2_wearInAll_1 hown hX hW 0 rfl rfl 0 (by decide) mw_X2_wearInAll_0 (fun _ h9 => h9) rfl dX2_wearInAll_15 ?_
        refine lv_iload_n hx hb dX2_wearInAll_18 rfl (lv_at hl 0 rfl) ?_
        refine z_iald hx hb hX hW 1 rfl (k := j) (by omega) (by omega) dX2_wearInAll_19 ?_
        refine lv_iload_n hx hb dX2_wearInAll_20 rfl (lv_at hl 0 rfl) ?_
        refine lv_bipush (v := nI 10) hx hb dX2_wearInAll_21 (by decide) ?_
        refine lv_irem hx hb dX2_wearInAll_23 (by decide) ?_
        refine zw_topi (pk_rem (by omega) (by omega) (by omega)) ?_
        refine lv_imul hx hb dX2_wearInAll_24 ?_
        refine lv_iadd hx hb dX2_wearInAll_25 ?_
        refine lv_istore_n (lv' := [(1, .int ((bx_sum (wr f) j) + ((f j) * (nI (j % 10))))), (2, .int (nI j)), (0, .ref a)]) hx hb dX2_wearInAll_26 rfl hl (by decide) rfl (fun ls hl => ?_)
        refine lv_iinc (v := nI (j + 1)) (lv' := [(2, .int (nI (j + 1))), (1, .int ((bx_sum (wr f) j) + ((f j) * (nI (j % 10))))), (0, .ref a)]) hx hb dX2_wearInAll_27 hl (k := 1) rfl (zinc1 _) (by decide) rfl (fun ls hl => ?_)
        refine lv_goto (tgt := 4) hx hb dX2_wearInAll_30 (by decide) ?_
        have hl : lv_has ls 3 [(2, .int (nI (j + 1))), (1, .int (bx_sum (wr f) (j + 1))), (0, .ref a)] := lv_sub hl [0, 1, 2] rfl
        exact ih_4 (j + 1) (by omega) (by omega) _ _ _ hW hl
  have hl : lv_has ls 3 [(2, .int (nI 0)), (1, .int (bx_sum (wr f) 0)), (0, .ref a)] := lv_sub hl [0, 1, 2] rfl
  exact loop_4 _ 0 (by omega) (Nat.lt_succ_self _) _ _ _ hW hl
