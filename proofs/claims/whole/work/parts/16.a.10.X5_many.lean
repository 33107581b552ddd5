theorem mw_X5_many_0 : Cond.fieldLink RX5 13 "TypeFoundryModel" "store" "[I" ∈ wsX5_many := by decide +kernel
theorem mw_X5_many_1 : ∀ w ∈ wsX50, w ∈ wsX5_many := by decide +kernel
abbrev wp_X5_many (Z : zT) (o0 o1 o2 o3 o4 o5 o6 o7 o8 np : Nat) (th dy me co ca br ml le : Int32) (f : Nat → Int32) (fr g : Nat) : Unit → va_W := fun (u : Unit) => [(o0, .inr (5, [.int th, .int dy, .int me, .int co, .int (nI np), .int ca, .int br, .int ml, .ref o1, .ref o2, .ref o3, .ref o4, .ref o5, .ref o6, .int le, .ref o7, .ref o8])), (o1, zI Z 3770 f)]
abbrev po_X5_many (Z : zT) (o0 o1 o2 o3 o4 o5 o6 o7 o8 np : Nat) (th dy me co ca br ml le : Int32) (f : Nat → Int32) (fr g : Nat) : Int32 → Unit → Prop := fun (r : Int32) (u : Unit) => r = bx_sum (sg (sh f fr) g) 10
abbrev rm_X5_many : Room := { frames := 0, cells := 0, slots := 0, locals := 0 }
set_option maxHeartbeats 4000000 in
set_option maxRecDepth 100000 in
theorem c_X5_many (l : Launch) (Z : zT) (o0 o1 o2 o3 o4 o5 o6 o7 o8 np : Nat) (th dy me co ca br ml le : Int32) (f : Nat → Int32) (fr g : Nat) (hfr : fr + 290 ≤ 3770) (hg : g < 29) : zMet l yX5_many wsX5_many rm_X5_many [.ref o0, .int (nI fr), .int (nI g)] Z [(o0, .inr (5, [.int th, .int dy, .int me, .int co, .int (nI np), .int ca, .int br, .int ml, .ref o1, .ref o2, .ref o3, .ref o4, .ref o5, .ref o6, .int le, .ref o7, .ref o8])), (o1, zI Z 3770 f)] (zQi Z (po_X5_many Z o0 o1 o2 o3 o4 o5 o6 o7 o8 np th dy me co ca br ml le f fr g) (wp_X5_many Z o0 o1 o2 o3 o4 o5 o6 o7 o8 np th dy me co ca br ml le f fr g)) 0 0 := by
  refine zstart (cc := cX5_many) (maxL := 5) (ret := (some .int)) (by decide) rfl (Nat.le_of_ble_eq_true rfl) ?_
  intro p e s m below meth c ls A hx hb hr hC hlk hnm hX hW hl
  have hml := hC.2.2.1
  have hown : s.vm.findClass RX5 = some m.cls := hC.2.2.2.1
  have hts := hC.2.2.2.2
  have hl : lv_has ls 5 [(0, .ref o0), (1, .int (nI fr)), (2, .int (nI g))] := hl
  refine lv_iconst (v := nI 0) hx hb dX5_many_0 (by decide) ?_
  refine lv_istore_n (lv' := [(3, .int (nI 0)), (0, .ref o0), (1, .int (nI fr)), (2, .int (nI g))]) hx hb dX5_many_1 rfl hl (by decide) rfl (fun ls hl => ?_)
  refine lv_iconst (v := nI 0) hx hb dX5_many_2 (by decide) ?_
  refine lv_istore (lv' := [(4, .int (nI 0)), (3, .int (nI 0)), (0, .ref o0), (1, .int (nI fr)), (2, .int (nI g))]) hx hb dX5_many_3 hl (by decide) rfl (fun ls hl => ?_)
  have loop_5 : ∀ (n : Nat) (j : Nat) (x : Int32), (j ≤ 10) → (x = bx_sum (sg (sh f fr) g) j) → (10 - j < n) → ∀ (H : Heap) (locs : List Loc) (ls : Array Slot), zW Z s A [(o0, .inr (5, [.int th, .int dy, .int me, .int co, .int (nI np), .int ca, .int br, .int ml, .ref o1, .ref o2, .ref o3, .ref o4, .ref o5, .ref o6, .int le, .ref o7, .ref o8])), (o1, zI Z 3770 f)] H locs → lv_has ls 5 [(4, .int (nI j)), (3, .int x), (0, .ref o0), (1, .int (nI fr)), (2, .int (nI g))] → W p l e rm_X5_many s m ([.ref o0, .int (nI fr), .int (nI g)] : List Value).toArray below meth c H locs 0 0 (MQ below (zQi Z (po_X5_many Z o0 o1 o2 o3 o4 o5 o6 o7 o8 np th dy me co ca br ml le f fr g) (wp_X5_many Z o0 o1 o2 o3 o4 o5 o6 o7 o8 np th dy me co ca br ml le f fr g) A) ([.ref o0, .int (nI fr), .int (nI g)] : List Value).toArray s 0 0 A) (F0 m 5 ls []) := by
    intro n
    induction n with
    | zero =>
      intro j x hj hx9 hm
      exact absurd hm (Nat.not_lt_zero _)
    | succ n ih =>
      intro j x hj hx9 hm H locs ls hW hl
      have ih_5 := ih
      refine lv_iload hx hb dX5_many_5 (lv_at hl 0 rfl) ?_
      refine lv_bipush (v := nI 10) hx hb dX5_many_7 (by decide) ?_
      refine zn_icmp_ge (tgt := 35) (a := j) (b := 10) hx hb (by omega) (by omega) dX5_many_9 (by decide) (fun c_9 => ?_) (fun c_9 => ?_)
      · refine lv_iload_n hx hb dX5_many_35 rfl (lv_at hl 1 rfl) ?_
        exact z_iret hx hb hr hlk hW () (by rw [hx9, show j = 10 by omega]) (rfl) (by omega) (by omega) dX5_many_36
      · refine lv_iload_n hx hb dX5_many_12 rfl (lv_at hl 1 rfl) ?_
        refine lv_aload_n hx hb dX5_many_13 rfl (lv_at hl 2 rfl) ?_
        refine z_get (C := RX5) (T := TX5) (N := 17) hx hb hts mw_X5_many_1 hown hX hW 0 rfl rfl 8 (by decide) mw_X5_many_0 (fun _ h9 => h9) rfl dX5_many_14 ?_
        refine lv_iload_n hx hb dX5_many_17 rfl (lv_at hl 3 rfl) ?_
        refine lv_bipush (v := nI 10) hx hb dX5_many_18 (by decide) ?_
        refine lv_iload_n hx hb dX5_many_20 rfl (lv_at hl 4 rfl) ?_
        refine lv_imul hx hb dX5_many_21 ?_
        refine zw_topi (pk_mul _ _) ?_
        refine lv_iadd hx hb dX5_many_22 ?_
        refine zw_topi (nI_add _ _) ?_
        refine lv_iload hx hb dX5_many_23 (lv_at hl 0 rfl) ?_
        refine lv_iadd hx hb dX5_many_25 ?_
        refine zw_topi (nI_add _ _) ?_
        refine z_iald hx hb hX hW 1 rfl (k := ((fr + (10 * g)) + j)) (by omega) (by omega) dX5_many_26 ?_
        refine lv_iadd hx hb dX5_many_27 ?_
        refine lv_istore_n (lv' := [(3, .int (x + (f ((fr + (10 * g)) + j)))), (4, .int (nI j)), (0, .ref o0), (1, .int (nI fr)), (2, .int (nI g))]) hx hb dX5_many_28 rfl hl (by decide) rfl (fun ls hl => ?_)
        refine lv_iinc (v := nI (j + 1)) (lv' := [(4, .int (nI (j + 1))), (3, .int (x + (f ((fr + (10 * g)) + j)))), (0, .ref o0), (1, .int (nI fr)), (2, .int (nI g))]) hx hb dX5_many_29 hl (k := 1) rfl (zinc1 _) (by decide) rfl (fun ls hl => ?_)
        refine lv_goto (tgt := 5) hx hb dX5_many_32 (by decide) ?_
        have hl : lv_has ls 5 [(4, .int (nI (j + 1))), (3, .int (x + (f ((fr + (10 * g)) + j)))), (0, .ref o0), (1, .int (nI fr)), (2, .int (nI g))] := lv_sub hl [0, 1, 2, 3, 4] rfl
        exact ih_5 (j + 1) (x + (f ((fr + (10 * g)) + j))) (by omega) (by rw [hx9, many_s (f := f) (fr := fr) (j := j) hg (by omega)]; rfl) (by omega) _ _ _ hW hl
  have hl : lv_has ls 5 [(4, .int (nI 0)), (3, .int (nI 0)), (0, .ref o0), (1, .int (nI fr)), (2, .int (nI g))] := lv_sub hl [0, 1, 2, 3, 4] rfl
  exact loop_5 _ 0 (nI 0) (by omega) rfl (Nat.lt_succ_self _) _ _ _ hW hl
