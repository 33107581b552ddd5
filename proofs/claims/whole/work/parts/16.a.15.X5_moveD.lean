theorem mw_X5_moveD_0 : Cond.fieldLink RX5 13 "TypeFoundryModel" "store" "[I" ∈ wsX5_move := by decide +kernel
theorem mw_X5_moveD_1 : ∀ w ∈ wsX50, w ∈ wsX5_move := by decide +kernel
theorem mw_X5_moveD_2 : Cond.methodLink RX5 48 Lib.Math.min.name ∈ wsX5_move := by decide +kernel
theorem mw_X5_moveD_3 : Cond.static Lib.Math.min.name ∈ wsX5_move := by decide +kernel
theorem mw_X5_moveD_4 : Cond.initialized "java/lang/Math" ∈ wsX5_move := by decide +kernel
theorem mw_X5_moveD_5 : Cond.code Lib.Math.min.name Lib.Math.min.code 2 (some .int) ∈ wsX5_move := by decide +kernel
abbrev wp_X5_moveD (Z : zT) (o0 o1 o2 o3 o4 o5 o6 o7 o8 np : Nat) (th dy me co ca br ml le : Int32) (f : Nat → Int32) (fr ta g q : Nat) : Unit → va_W := fun (u : Unit) => [(o0, .inr (5, [.int th, .int dy, .int me, .int co, .int (nI np), .int ca, .int br, .int ml, .ref o1, .ref o2, .ref o3, .ref o4, .ref o5, .ref o6, .int le, .ref o7, .ref o8])), (o1, zI Z 3770 (put2 f fr ta (mvS oD g (nI q) (sh f fr) (sh f ta) 10).2.2.1 (mvS oD g (nI q) (sh f fr) (sh f ta) 10).2.2.2))]
abbrev po_X5_moveD (Z : zT) (o0 o1 o2 o3 o4 o5 o6 o7 o8 np : Nat) (th dy me co ca br ml le : Int32) (f : Nat → Int32) (fr ta g q : Nat) : Int32 → Unit → Prop := fun (r : Int32) (u : Unit) => r = (mvS oD g (nI q) (sh f fr) (sh f ta) 10).2.1
abbrev rm_X5_moveD : Room := { frames := 1, cells := 0, slots := 0, locals := 13 }
set_option maxHeartbeats 4000000 in
set_option maxRecDepth 100000 in
theorem c_X5_moveD (l : Launch) (Z : zT) (o0 o1 o2 o3 o4 o5 o6 o7 o8 np : Nat) (th dy me co ca br ml le : Int32) (f : Nat → Int32) (fr ta g q : Nat) (hd : fr + 290 ≤ ta ∨ ta + 290 ≤ fr) (hr9 : fr + 290 ≤ 3770 ∧ ta + 290 ≤ 3770) (hg : g < 29) (hq : q < 2 ^ 31) (hnn : ∀ j, j < 10 → nn (sh f fr (g * 10 + oD j))) (hsu : q ≤ csum (sh f fr) g oD 10) : zMet l yX5_move wsX5_move rm_X5_moveD [.ref o0, .int (nI fr), .int (nI ta), .int (nI g), .int (nI q), .int (nI 9)] Z [(o0, .inr (5, [.int th, .int dy, .int me, .int co, .int (nI np), .int ca, .int br, .int ml, .ref o1, .ref o2, .ref o3, .ref o4, .ref o5, .ref o6, .int le, .ref o7, .ref o8])), (o1, zI Z 3770 f)] (zQi Z (po_X5_moveD Z o0 o1 o2 o3 o4 o5 o6 o7 o8 np th dy me co ca br ml le f fr ta g q) (wp_X5_moveD Z o0 o1 o2 o3 o4 o5 o6 o7 o8 np th dy me co ca br ml le f fr ta g q)) 0 0 := by
  refine zstart (cc := cX5_move) (maxL := 11) (ret := (some .int)) (by decide) rfl (Nat.le_of_ble_eq_true rfl) ?_
  intro p e s m below meth c ls A hx hb hr hC hlk hnm hX hW hl
  have hml := hC.2.2.1
  have hown : s.vm.findClass RX5 = some m.cls := hC.2.2.2.1
  have hts := hC.2.2.2.2
  have hl : lv_has ls 11 [(0, .ref o0), (1, .int (nI fr)), (2, .int (nI ta)), (3, .int (nI g)), (4, .int (nI q)), (5, .int (nI 9))] := hl
  refine lv_iload hx hb dX5_move_0 (lv_at hl 5 rfl) ?_
  refine zn_if_ne (tgt := 9) (a := 9) hx hb (by omega) dX5_move_2 (by decide) (fun c_2 => ?_) (fun c_2 => (absurd c_2 (by decide) : False).elim)
  refine lv_iconst (v := -1) hx hb dX5_move_9 (by decide) ?_
  refine lv_istore (lv' := [(6, .int (-1)), (0, .ref o0), (1, .int (nI fr)), (2, .int (nI ta)), (3, .int (nI g)), (4, .int (nI q)), (5, .int (nI 9))]) hx hb dX5_move_10 hl (by decide) rfl (fun ls hl => ?_)
  refine lv_iload hx hb dX5_move_12 (lv_at hl 5 rfl) ?_
  refine lv_istore (lv' := [(7, .int (nI q)), (6, .int (-1)), (0, .ref o0), (1, .int (nI fr)), (2, .int (nI ta)), (3, .int (nI g)), (4, .int (nI q)), (5, .int (nI 9))]) hx hb dX5_move_14 hl (by decide) rfl (fun ls hl => ?_)
  refine lv_iconst (v := nI 0) hx hb dX5_move_16 (by decide) ?_
  refine lv_istore (lv' := [(8, .int (nI 0)), (7, .int (nI q)), (6, .int (-1)), (0, .ref o0), (1, .int (nI fr)), (2, .int (nI ta)), (3, .int (nI g)), (4, .int (nI q)), (5, .int (nI 9))]) hx hb dX5_move_17 hl (by decide) rfl (fun ls hl => ?_)
  refine lv_iload hx hb dX5_move_19 (lv_at hl 8 rfl) ?_
  refine lv_istore (lv' := [(9, .int (nI 9)), (8, .int (nI 0)), (7, .int (nI q)), (6, .int (-1)), (0, .ref o0), (1, .int (nI fr)), (2, .int (nI ta)), (3, .int (nI g)), (4, .int (nI q)), (5, .int (nI 9))]) hx hb dX5_move_21 hl (by decide) rfl (fun ls hl => ?_)
  have loop_23 : ∀ (n : Nat) (j : Nat) (K : Nat → Int32) (x : Int32) (y : Int32), (j ≤ 10) → (x = (mvS oD g (nI q) (sh f fr) (sh f ta) j).1) → (y = (mvS oD g (nI q) (sh f fr) (sh f ta) j).2.1) → (K = put2 f fr ta (mvS oD g (nI q) (sh f fr) (sh f ta) j).2.2.1 (mvS oD g (nI q) (sh f fr) (sh f ta) j).2.2.2) → (10 - j < n) → ∀ (H : Heap) (locs : List Loc) (ls : Array Slot), zW Z s A [(o0, .inr (5, [.int th, .int dy, .int me, .int co, .int (nI np), .int ca, .int br, .int ml, .ref o1, .ref o2, .ref o3, .ref o4, .ref o5, .ref o6, .int le, .ref o7, .ref o8])), (o1, zI Z 3770 K)] H locs → lv_has ls 11 [(9, .int (w9 j)), (8, .int y), (7, .int x), (6, .int (-1)), (0, .ref o0), (1, .int (nI fr)), (2, .int (nI ta)), (3, .int (nI g)), (4, .int (nI q)), (5, .int (nI 9))] → W p l e rm_X5_moveD s m ([.ref o0, .int (nI fr), .int (nI ta), .int (nI g), .int (nI q), .int (nI 9)] : List Value).toArray below meth c H locs 0 0 (MQ below (zQi Z (po_X5_moveD Z o0 o1 o2 o3 o4 o5 o6 o7 o8 np th dy me co ca br ml le f fr ta g q) (wp_X5_moveD Z o0 o1 o2 o3 o4 o5 o6 o7 o8 np th dy me co ca br ml le f fr ta g q) A) ([.ref o0, .int (nI fr), .int (nI ta), .int (nI g), .int (nI q), .int (nI 9)] : List Value).toArray s 0 0 A) (F0 m 23 ls []) := by
    intro n
    induction n with
    | zero =>
      intro j K x y hj hx9 hy9 hK hm
      exact absurd hm (Nat.not_lt_zero _)
    | succ n ih =>
      intro j K x y hj hx9 hy9 hK hm H locs ls hW hl
      have ih_23 := ih
      rcases Nat.lt_or_ge j 10 with hj10 | hj10
      · rw [w9_lt hj10] at hl
        have hl : lv_has ls 11 [(9, .int (nI (9 - j))), (8, .int y), (7, .int x), (6, .int (-1)), (0, .ref o0), (1, .int (nI fr)), (2, .int (nI ta)), (3, .int (nI g)), (4, .int (nI q)), (5, .int (nI 9))] := hl
        refine lv_iload hx hb dX5_move_23 (lv_at hl 2 rfl) ?_
        refine lv_if_le (tgt := 114) hx hb dX5_move_25 (by decide) (fun c_25 => ?_) (fun c_25 => ?_)
        · rw [hx9] at c_25
          have he9 := mv_10 (h := sh f ta) hq oD_inj hnn hj c_25
          refine lv_iload hx hb dX5_move_114 (lv_at hl 1 rfl) ?_
          exact z_iret hx hb hr hlk hW () (by unfold po_X5_moveD; rw [hy9, he9]) (by rw [hK, he9]) (by omega) (by omega) dX5_move_116
        · rw [hx9] at c_25
          have hj9 : j < 10 := mv_end hq oD_inj hnn hsu hj c_25
          have hk1 := fun x9 => mv_K (o := oD) (x := x9) hd hg (show 9 - j < 10 by omega) hK
          have hk1 := hk1 (mn x (K (fr + 10 * g + (9 - j))))
          refine lv_iload hx hb dX5_move_28 (lv_at hl 2 rfl) ?_
          refine lv_aload_n hx hb dX5_move_30 rfl (lv_at hl 4 rfl) ?_
          refine z_get (C := RX5) (T := TX5) (N := 17) hx hb hts mw_X5_moveD_1 hown hX hW 0 rfl rfl 8 (by decide) mw_X5_moveD_0 (fun _ h9 => h9) rfl dX5_move_31 ?_
          refine lv_iload_n hx hb dX5_move_34 rfl (lv_at hl 5 rfl) ?_
          refine lv_bipush (v := nI 10) hx hb dX5_move_35 (by decide) ?_
          refine lv_iload_n hx hb dX5_move_37 rfl (lv_at hl 7 rfl) ?_
          refine lv_imul hx hb dX5_move_38 ?_
          refine zw_topi (pk_mul _ _) ?_
          refine lv_iadd hx hb dX5_move_39 ?_
          refine zw_topi (nI_add _ _) ?_
          refine lv_iload hx hb dX5_move_40 (lv_at hl 0 rfl) ?_
          refine lv_iadd hx hb dX5_move_42 ?_
          refine zw_topi (nI_add _ _) ?_
          refine z_iald hx hb hX hW 1 rfl (k := ((fr + (10 * g)) + (9 - j))) (by omega) (by omega) dX5_move_43 ?_
          refine va_mmin hx hb (hml.trans hl.1.symm) hown (hts _ mw_X5_moveD_2) (hts _ mw_X5_moveD_3) (hts _ mw_X5_moveD_4) (hts _ mw_X5_moveD_5) (Nat.le_of_ble_eq_true rfl) (Nat.le_of_ble_eq_true rfl) (Nat.le_of_ble_eq_true rfl) (Nat.le_of_ble_eq_true rfl) dX5_move_44 ?_
          refine zw_topi (y := (mn x (K (fr + 10 * g + (9 - j))))) (rfl) ?_
          refine lv_istore (lv' := [(10, .int (mn x (K (fr + 10 * g + (9 - j))))), (9, .int (nI (9 - j))), (8, .int y), (7, .int x), (6, .int (-1)), (0, .ref o0), (1, .int (nI fr)), (2, .int (nI ta)), (3, .int (nI g)), (4, .int (nI q)), (5, .int (nI 9))]) hx hb dX5_move_47 hl (by decide) rfl (fun ls hl => ?_)
          refine lv_aload_n hx hb dX5_move_49 rfl (lv_at hl 5 rfl) ?_
          refine z_get (C := RX5) (T := TX5) (N := 17) hx hb hts mw_X5_moveD_1 hown hX hW 0 rfl rfl 8 (by decide) mw_X5_moveD_0 (fun _ h9 => h9) rfl dX5_move_50 ?_
          refine lv_iload_n hx hb dX5_move_53 rfl (lv_at hl 6 rfl) ?_
          refine lv_bipush (v := nI 10) hx hb dX5_move_54 (by decide) ?_
          refine lv_iload_n hx hb dX5_move_56 rfl (lv_at hl 8 rfl) ?_
          refine lv_imul hx hb dX5_move_57 ?_
          refine zw_topi (pk_mul _ _) ?_
          refine lv_iadd hx hb dX5_move_58 ?_
          refine zw_topi (nI_add _ _) ?_
          refine lv_iload hx hb dX5_move_59 (lv_at hl 1 rfl) ?_
          refine lv_iadd hx hb dX5_move_61 ?_
          refine zw_topi (nI_add _ _) ?_
          refine lv_dup2_11 hx hb dX5_move_62 rfl rfl ?_
          refine z_iald hx hb hX hW 1 rfl (k := ((fr + (10 * g)) + (9 - j))) (by omega) (by omega) dX5_move_63 ?_
          refine lv_iload hx hb dX5_move_64 (lv_at hl 0 rfl) ?_
          refine lv_isub hx hb dX5_move_66 ?_
          refine z_iast hx hb hX hW 1 rfl (k := ((fr + (10 * g)) + (9 - j))) (by omega) (by omega) dX5_move_67 (fun H locs hW => ?_)
          have hW : zW Z s A [(o0, .inr (5, [.int th, .int dy, .int me, .int co, .int (nI np), .int ca, .int br, .int ml, .ref o1, .ref o2, .ref o3, .ref o4, .ref o5, .ref o6, .int le, .ref o7, .ref o8])), (o1, zI Z 3770 (upd K ((fr + (10 * g)) + (9 - j)) ((K ((fr + (10 * g)) + (9 - j))) - (mn x (K (fr + 10 * g + (9 - j)))))))] _ _ := hW
          refine lv_aload_n hx hb dX5_move_68 rfl (lv_at hl 5 rfl) ?_
          refine z_get (C := RX5) (T := TX5) (N := 17) hx hb hts mw_X5_moveD_1 hown hX hW 0 rfl rfl 8 (by decide) mw_X5_moveD_0 (fun _ h9 => h9) rfl dX5_move_69 ?_
          refine lv_iload_n hx hb dX5_move_72 rfl (lv_at hl 7 rfl) ?_
          refine lv_bipush (v := nI 10) hx hb dX5_move_73 (by decide) ?_
          refine lv_iload_n hx hb dX5_move_75 rfl (lv_at hl 8 rfl) ?_
          refine lv_imul hx hb dX5_move_76 ?_
          refine zw_topi (pk_mul _ _) ?_
          refine lv_iadd hx hb dX5_move_77 ?_
          refine zw_topi (nI_add _ _) ?_
          refine lv_iload hx hb dX5_move_78 (lv_at hl 1 rfl) ?_
          refine lv_iadd hx hb dX5_move_80 ?_
          refine zw_topi (nI_add _ _) ?_
          refine lv_dup2_11 hx hb dX5_move_81 rfl rfl ?_
          refine z_iald hx hb hX hW 1 rfl (k := ((ta + (10 * g)) + (9 - j))) (by omega) (by omega) dX5_move_82 ?_
          refine lv_iload hx hb dX5_move_83 (lv_at hl 0 rfl) ?_
          refine lv_iadd hx hb dX5_move_85 ?_
          refine z_iast hx hb hX hW 1 rfl (k := ((ta + (10 * g)) + (9 - j))) (by omega) (by omega) dX5_move_86 (fun H locs hW => ?_)
          have hW : zW Z s A [(o0, .inr (5, [.int th, .int dy, .int me, .int co, .int (nI np), .int ca, .int br, .int ml, .ref o1, .ref o2, .ref o3, .ref o4, .ref o5, .ref o6, .int le, .ref o7, .ref o8])), (o1, zI Z 3770 (upd (upd K ((fr + (10 * g)) + (9 - j)) ((K ((fr + (10 * g)) + (9 - j))) - (mn x (K (fr + 10 * g + (9 - j)))))) ((ta + (10 * g)) + (9 - j)) (((upd K ((fr + (10 * g)) + (9 - j)) ((K ((fr + (10 * g)) + (9 - j))) - (mn x (K (fr + 10 * g + (9 - j)))))) ((ta + (10 * g)) + (9 - j))) + (mn x (K (fr + 10 * g + (9 - j)))))))] _ _ := hW
          refine lv_iload hx hb dX5_move_87 (lv_at hl 3 rfl) ?_
          refine lv_iload hx hb dX5_move_89 (lv_at hl 0 rfl) ?_
          refine lv_isub hx hb dX5_move_91 ?_
          refine lv_istore (lv' := [(7, .int (x - (mn x (K (fr + 10 * g + (9 - j)))))), (10, .int (mn x (K (fr + 10 * g + (9 - j))))), (9, .int (nI (9 - j))), (8, .int y), (6, .int (-1)), (0, .ref o0), (1, .int (nI fr)), (2, .int (nI ta)), (3, .int (nI g)), (4, .int (nI q)), (5, .int (nI 9))]) hx hb dX5_move_92 hl (by decide) rfl (fun ls hl => ?_)
          refine lv_iload hx hb dX5_move_94 (lv_at hl 3 rfl) ?_
          refine lv_iload hx hb dX5_move_96 (lv_at hl 1 rfl) ?_
          refine lv_iload hx hb dX5_move_98 (lv_at hl 2 rfl) ?_
          refine lv_imul hx hb dX5_move_100 ?_
          refine lv_iadd hx hb dX5_move_101 ?_
          refine lv_istore (lv' := [(8, .int (y + ((mn x (K (fr + 10 * g + (9 - j)))) * (nI (9 - j))))), (7, .int (x - (mn x (K (fr + 10 * g + (9 - j)))))), (10, .int (mn x (K (fr + 10 * g + (9 - j))))), (9, .int (nI (9 - j))), (6, .int (-1)), (0, .ref o0), (1, .int (nI fr)), (2, .int (nI ta)), (3, .int (nI g)), (4, .int (nI q)), (5, .int (nI 9))]) hx hb dX5_move_102 hl (by decide) rfl (fun ls hl => ?_)
          refine lv_iload hx hb dX5_move_104 (lv_at hl 3 rfl) ?_
          refine lv_iload hx hb dX5_move_106 (lv_at hl 4 rfl) ?_
          refine lv_iadd hx hb dX5_move_108 ?_
          refine zw_topi (y := (w9 (j + 1))) (by exact w9_s hj9) ?_
          refine lv_istore (lv' := [(9, .int (w9 (j + 1))), (8, .int (y + ((mn x (K (fr + 10 * g + (9 - j)))) * (nI (9 - j))))), (7, .int (x - (mn x (K (fr + 10 * g + (9 - j)))))), (10, .int (mn x (K (fr + 10 * g + (9 - j))))), (6, .int (-1)), (0, .ref o0), (1, .int (nI fr)), (2, .int (nI ta)), (3, .int (nI g)), (4, .int (nI q)), (5, .int (nI 9))]) hx hb dX5_move_109 hl (by decide) rfl (fun ls hl => ?_)
          refine lv_goto (tgt := 23) hx hb dX5_move_111 (by decide) ?_
          have hl : lv_has ls 11 [(9, .int (w9 (j + 1))), (8, .int (y + ((mn x (K (fr + 10 * g + (9 - j)))) * (nI (9 - j))))), (7, .int (x - (mn x (K (fr + 10 * g + (9 - j)))))), (6, .int (-1)), (0, .ref o0), (1, .int (nI fr)), (2, .int (nI ta)), (3, .int (nI g)), (4, .int (nI q)), (5, .int (nI 9))] := lv_sub hl [0, 1, 2, 4, 5, 6, 7, 8, 9, 10] rfl
          exact ih_23 (j + 1) (upd (upd K ((fr + (10 * g)) + (9 - j)) ((K ((fr + (10 * g)) + (9 - j))) - (mn x (K (fr + 10 * g + (9 - j)))))) ((ta + (10 * g)) + (9 - j)) (((upd K ((fr + (10 * g)) + (9 - j)) ((K ((fr + (10 * g)) + (9 - j))) - (mn x (K (fr + 10 * g + (9 - j)))))) ((ta + (10 * g)) + (9 - j))) + (mn x (K (fr + 10 * g + (9 - j)))))) (x - (mn x (K (fr + 10 * g + (9 - j))))) (y + ((mn x (K (fr + 10 * g + (9 - j)))) * (nI (9 - j)))) (by omega) (by rw [hx9, hk1.1]; rfl) (by rw [hx9, hy9, hk1.1]; rfl) (by rw [hk1.2, hx9, hk1.1]; rfl) (by omega) _ _ _ hW hl
      · rw [w9_ge hj10] at hl
        have hl : lv_has ls 11 [(9, .int (-1)), (8, .int y), (7, .int x), (6, .int (-1)), (0, .ref o0), (1, .int (nI fr)), (2, .int (nI ta)), (3, .int (nI g)), (4, .int (nI q)), (5, .int (nI 9))] := hl
        refine lv_iload hx hb dX5_move_23 (lv_at hl 2 rfl) ?_
        refine lv_if_le (tgt := 114) hx hb dX5_move_25 (by decide) (fun c_25 => ?_) (fun c_25 => ((absurd (mv_end (h := sh f ta) hq oD_inj hnn hsu hj (by rw [← hx9]; exact c_25)) (by omega)) : False).elim)
        rw [hx9] at c_25
        have he9 := mv_10 (h := sh f ta) hq oD_inj hnn hj c_25
        refine lv_iload hx hb dX5_move_114 (lv_at hl 1 rfl) ?_
        exact z_iret hx hb hr hlk hW () (by unfold po_X5_moveD; rw [hy9, he9]) (by rw [hK, he9]) (by omega) (by omega) dX5_move_116
  have hl : lv_has ls 11 [(9, .int (w9 0)), (8, .int (nI 0)), (7, .int (nI q)), (6, .int (-1)), (0, .ref o0), (1, .int (nI fr)), (2, .int (nI ta)), (3, .int (nI g)), (4, .int (nI q)), (5, .int (nI 9))] := lv_sub hl [0, 1, 2, 3, 4, 5, 6, 7, 8, 9] rfl
  exact loop_23 _ 0 f (nI q) (nI 0) (by omega) rfl rfl (put2_0 f fr ta) (Nat.lt_succ_self _) _ _ _ hW hl
