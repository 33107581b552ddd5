theorem mw_X2_digestOnto_0 : Cond.fieldLink RX2 9 "TypeFoundry$Sorts" "numbers" "[I" ∈ wsX2_digestOnto := by decide +kernel
theorem mw_X2_digestOnto_1 : ∀ w ∈ wsX20, w ∈ wsX2_digestOnto := by decide +kernel
theorem mw_X2_digestOnto_2 : Cond.constantLong RX2 39 (31) ∈ wsX2_digestOnto := by decide +kernel
abbrev wp_X2_digestOnto (Z : zT) (a b : Nat) (f : Nat → Int32) (d : Int64) : Unit → va_W := fun (u : Unit) => [(a, .inr (2, [.ref b])), (b, zI Z 290 f)]
abbrev po_X2_digestOnto (Z : zT) (a b : Nat) (f : Nat → Int32) (d : Int64) : Int64 → Unit → Prop := fun (r : Int64) (u : Unit) => r = dg d f 290
abbrev rm_X2_digestOnto : Room := { frames := 0, cells := 0, slots := 0, locals := 0 }
set_option maxHeartbeats 4000000 in
set_option maxRecDepth 100000 in
theorem c_X2_digestOnto (l : Launch) (Z : zT) (a b : Nat) (f : Nat → Int32) (d : Int64)  : zMet l yX2_digestOnto wsX2_digestOnto rm_X2_digestOnto [.ref a, .long d] Z [(a, .inr (2, [.ref b])), (b, zI Z 290 f)] (zQl Z (po_X2_digestOnto Z a b f d) (wp_X2_digestOnto Z a b f d)) 0 0 := by
  refine zstart (cc := cX2_digestOnto) (maxL := 6) (ret := (some .long)) (by decide) rfl (Nat.le_of_ble_eq_true rfl) ?_
  intro p e s m below meth c ls A hx hb hr hC hlk hnm hX hW hl
  have hml := hC.2.2.1
  have hown : s.vm.findClass RX2 = some m.cls := hC.2.2.2.1
  have hts := hC.2.2.2.2
  have hl : lv_has ls 6 [(0, .ref a), (1, .long d)] := hl
  refine lv_lload_n hx hb dX2_digestOnto_0 rfl (lv_at hl 1 rfl) ?_
  refine lv_lstore_n (lv' := [(3, .long d), (0, .ref a), (1, .long d)]) hx hb dX2_digestOnto_1 rfl hl (by decide) rfl (fun ls hl => ?_)
  refine lv_iconst (v := nI 0) hx hb dX2_digestOnto_2 (by decide) ?_
  refine lv_istore (lv' := [(5, .int (nI 0)), (3, .long d), (0, .ref a), (1, .long d)]) hx hb dX2_digestOnto_3 hl (by decide) rfl (fun ls hl => ?_)
  have loop_5 : ∀ (n : Nat) (j : Nat), (j ≤ 290) → (290 - j < n) → ∀ (H : Heap) (locs : List Loc) (ls : Array Slot), zW Z s A [(a, .inr (2, [.ref b])), (b, zI Z 290 f)] H locs → lv_has ls 6 [(5, .int (nI j)), (3, .long (dg d f j)), (0, .ref a), (1, .long d)] → W p l e rm_X2_digestOnto s m ([.ref a, .long d] : List Value).toArray below meth c H locs 0 0 (MQ below (zQl Z (po_X2_digestOnto Z a b f d) (wp_X2_digestOnto Z a b f d) A) ([.ref a, .long d] : List Value).toArray s 0 0 A) (F0 m 5 ls []) := by
    intro n
    induction n with
    | zero =>
      intro j hj hm
      exact absurd hm (Nat.not_lt_zero _)
    | succ n ih =>
      intro j hj hm H locs ls hW hl
      have ih_5 := ih
      refine lv_iload hx hb dX2_digestOnto_5 (lv_at hl 0 rfl) ?_
      refine lv_aload_n hx hb dX2_digestOnto_7 rfl (lv_at hl 2 rfl) ?_
      refine z_get (C := RX2) (T := TX2) (N := 1) hx hb hts mw_X2_digestOnto_1 hown hX hW 0 rfl rfl 0 (by decide) mw_X2_digestOnto_0 (fun _ h9 => h9) rfl dX2_digestOnto_8 ?_
      refine z_alen hx hb hX hW 1 rfl dX2_digestOnto_11 ?_
      refine zn_icmp_ge (tgt := 36) (a := j) (b := 290) hx hb (by omega) (by omega) dX2_digestOnto_12 (by decide) (fun c_12 => ?_) (fun c_12 => ?_)
      · refine lv_lload_n hx hb dX2_digestOnto_36 rfl (lv_at hl 1 rfl) ?_
        exact z_lret hx hb hr hlk hW () (by rw [show j = 290 by omega]) (rfl) (by omega) (by omega) dX2_digestOnto_37
      · refine lv_lload_n hx hb dX2_digestOnto_15 rfl (lv_at hl 1 rfl) ?_
        refine lv_ldc2 (own := RX2) (v := 31) hx hb hown (hts _ mw_X2_digestOnto_2) dX2_digestOnto_16 ?_
        refine lv_lmul hx hb dX2_digestOnto_19 ?_
        refine lv_aload_n hx hb dX2_digestOnto_20 rfl (lv_at hl 2 rfl) ?_
        refine z_get (C := RX2) (T := TX2) (N := 1) hx hb hts mw_X2_digestOnto_1 hown hX hW 0 rfl rfl 0 (by decide) mw_X2_digestOnto_0 (fun _ h9 => h9) rfl dX2_digestOnto_21 ?_
        refine lv_iload hx hb dX2_digestOnto_24 (lv_at hl 0 rfl) ?_
        refine z_iald hx hb hX hW 1 rfl (k := j) (by omega) (by omega) dX2_digestOnto_26 ?_
        refine lv_i2l (v := (f j).toInt64) hx hb dX2_digestOnto_27 rfl ?_
        refine lv_ladd hx hb dX2_digestOnto_28 ?_
        refine lv_lstore_n (lv' := [(3, .long (((dg d f j) * 31) + ((f j).toInt64))), (5, .int (nI j)), (0, .ref a), (1, .long d)]) hx hb dX2_digestOnto_29 rfl hl (by decide) rfl (fun ls hl => ?_)
        refine lv_iinc (v := nI (j + 1)) (lv' := [(5, .int (nI (j + 1))), (3, .long (((dg d f j) * 31) + ((f j).toInt64))), (0, .ref a), (1, .long d)]) hx hb dX2_digestOnto_30 hl (k := 1) rfl (zinc1 _) (by decide) rfl (fun ls hl => ?_)
        refine lv_goto (tgt := 5) hx hb dX2_digestOnto_33 (by decide) ?_
        have hl : lv_has ls 6 [(5, .int (nI (j + 1))), (3, .long (dg d f (j + 1))), (0, .ref a), (1, .long d)] := lv_sub hl [0, 1, 2, 3] rfl
        exact ih_5 (j + 1) (by omega) (by omega) _ _ _ hW hl
  have hl : lv_has ls 6 [(5, .int (nI 0)), (3, .long (dg d f 0)), (0, .ref a), (1, .long d)] := lv_sub hl [0, 1, 2, 3] rfl
  exact loop_5 _ 0 (by omega) (Nat.lt_succ_self _) _ _ _ hW hl
