theorem mw_X5_isWord_0 : Cond.fieldLink RX5 87 "TypeFoundryModel" "letters" "I" ∈ wsX5_isWord := by decide +kernel
theorem mw_X5_isWord_1 : ∀ w ∈ wsX50, w ∈ wsX5_isWord := by decide +kernel
theorem mw_X5_isWord_2 : Cond.fieldLink RX5 29 "TypeFoundryModel" "letter" "[I" ∈ wsX5_isWord := by decide +kernel
abbrev wp_X5_isWord (Z : zT) (o0 o1 o2 o3 o4 o5 o6 o7 o8 np : Nat) (th dy me co ca br ml le : Int32) (E : Nat → Int32) (x : Int32) : (Nat → Int32) × Int32 → va_W := fun (u : (Nat → Int32) × Int32) => match u with | (E1, le1) => [(o0, .inr (5, [.int th, .int dy, .int me, .int co, .int (nI np), .int ca, .int br, .int ml, .ref o1, .ref o2, .ref o3, .ref o4, .ref o5, .ref o6, .int le1, .ref o7, .ref o8])), (o6, zI Z 6 E1)]
abbrev po_X5_isWord (Z : zT) (o0 o1 o2 o3 o4 o5 o6 o7 o8 np : Nat) (th dy me co ca br ml le : Int32) (E : Nat → Int32) (x : Int32) : Int32 → (Nat → Int32) × Int32 → Prop := fun (r : Int32) (u : (Nat → Int32) × Int32) => match u with | (E1, le1) => (r = nI 1 ∧ isW x ∧ le1 = nI (wkk x) ∧ wdM (wkk x) (wla x) E1) ∨ (r = nI 0 ∧ ¬ isW x)
abbrev rm_X5_isWord : Room := { frames := 0, cells := 0, slots := 0, locals := 0 }
set_option maxHeartbeats 4000000 in
set_option maxRecDepth 100000 in
theorem c_X5_isWord (l : Launch) (Z : zT) (o0 o1 o2 o3 o4 o5 o6 o7 o8 np : Nat) (th dy me co ca br ml le : Int32) (E : Nat → Int32) (x : Int32)  : zMet l yX5_isWord wsX5_isWord rm_X5_isWord [.ref o0, .int x] Z [(o0, .inr (5, [.int th, .int dy, .int me, .int co, .int (nI np), .int ca, .int br, .int ml, .ref o1, .ref o2, .ref o3, .ref o4, .ref o5, .ref o6, .int le, .ref o7, .ref o8])), (o6, zI Z 6 E)] (zQi Z (po_X5_isWord Z o0 o1 o2 o3 o4 o5 o6 o7 o8 np th dy me co ca br ml le E x) (wp_X5_isWord Z o0 o1 o2 o3 o4 o5 o6 o7 o8 np th dy me co ca br ml le E x)) 0 0 := by
  refine zstart (cc := cX5_isWord) (maxL := 5) (ret := (some .boolean)) (by decide) rfl (Nat.le_of_ble_eq_true rfl) ?_
  intro p e s m below meth c ls A hx hb hr hC hlk hnm hX hW hl
  have hml := hC.2.2.1
  have hown : s.vm.findClass RX5 = some m.cls := hC.2.2.2.1
  have hts := hC.2.2.2.2
  have hl : lv_has ls 5 [(0, .ref o0), (1, .int x)] := hl
  refine lv_aload_n hx hb dX5_isWord_0 rfl (lv_at hl 0 rfl) ?_
  refine lv_iconst (v := nI 0) hx hb dX5_isWord_1 (by decide) ?_
  refine z_put (C := RX5) (T := TX5) (N := 17) (v := .int (nI 0)) (ty := .int) hx hb hts mw_X5_isWord_1 tyX5 tyX5_ok nmX5 hown hX hW 0 rfl rfl 14 (by decide) mw_X5_isWord_0 (fun _ h9 => h9) rfl (by decide +kernel) rfl rfl (Nat.le_of_ble_eq_true rfl) dX5_isWord_2 (fun H locs hW => ?_)
  have hW : zW Z s A [(o0, .inr (5, [.int th, .int dy, .int me, .int co, .int (nI np), .int ca, .int br, .int ml, .ref o1, .ref o2, .ref o3, .ref o4, .ref o5, .ref o6, .int (nI 0), .ref o7, .ref o8])), (o6, zI Z 6 E)] _ _ := hW
  refine lv_iload_n hx hb dX5_isWord_5 rfl (lv_at hl 1 rfl) ?_
  refine lv_istore_n (lv' := [(2, .int x), (0, .ref o0), (1, .int x)]) hx hb dX5_isWord_6 rfl hl (by decide) rfl (fun ls hl => ?_)
  refine lv_iload_n hx hb dX5_isWord_7 rfl (lv_at hl 2 rfl) ?_
  refine lv_if_le (tgt := 15) hx hb dX5_isWord_8 (by decide) (fun c_8 => ?_) (fun c_8 => ?_)
  · refine lv_iconst (v := nI 0) hx hb dX5_isWord_15 (by decide) ?_
    refine lv_istore_n (lv' := [(3, .int (nI 0)), (2, .int x), (0, .ref o0), (1, .int x)]) hx hb dX5_isWord_16 rfl hl (by decide) rfl (fun ls hl => ?_)
    refine lv_iload_n hx hb dX5_isWord_17 rfl (lv_at hl 1 rfl) ?_
    refine lv_if_le (tgt := 69) hx hb dX5_isWord_18 (by decide) (fun c_18 => ?_) (fun c_18 => absurd c_8 c_18)
    refine lv_iload_n hx hb dX5_isWord_69 rfl (lv_at hl 3 rfl) ?_
    refine lv_istore_n (lv' := [(2, .int x), (3, .int (nI 0)), (0, .ref o0), (1, .int x)]) hx hb dX5_isWord_70 rfl hl (by decide) rfl (fun ls hl => ?_)
    refine lv_aload_n hx hb dX5_isWord_71 rfl (lv_at hl 2 rfl) ?_
    refine z_get (C := RX5) (T := TX5) (N := 17) hx hb hts mw_X5_isWord_1 hown hX hW 0 rfl rfl 14 (by decide) mw_X5_isWord_0 (fun _ h9 => h9) rfl dX5_isWord_72 ?_
    refine lv_iconst (v := nI 1) hx hb dX5_isWord_75 (by decide) ?_
    refine lv_isub hx hb dX5_isWord_76 ?_
    refine zw_topi (y := (nI 0 - nI 1)) (rfl) ?_
    refine lv_istore (lv' := [(4, .int (nI 0 - nI 1)), (2, .int x), (3, .int (nI 0)), (0, .ref o0), (1, .int x)]) hx hb dX5_isWord_77 hl (by decide) rfl (fun ls hl => ?_)
    refine lv_iload hx hb dX5_isWord_79 (lv_at hl 0 rfl) ?_
    refine lv_if_lt (tgt := 112) hx hb dX5_isWord_81 (by decide) (fun c_81 => ?_) (fun c_81 => ?_)
    · refine lv_iload_n hx hb dX5_isWord_112 rfl (lv_at hl 2 rfl) ?_
      exact z_zret hx hb hr hlk (rfl) hW (E, nI 0) (by unfold po_X5_isWord; exact Or.inr ⟨rfl, by first | exact isW_np c_8 | exact (by rw [hxv]; exact wdk_x hv2 hn0)⟩) (rfl) (by omega) (by omega) dX5_isWord_113
    · refine lv_iload_n hx hb dX5_isWord_84 rfl (lv_at hl 2 rfl) ?_
      refine zn_if_eq (tgt := 112) (a := 0) hx hb (by omega) dX5_isWord_85 (by decide) (fun c_85 => ?_) (fun c_85 => absurd rfl c_85)
      refine lv_iload_n hx hb dX5_isWord_112 rfl (lv_at hl 2 rfl) ?_
      exact z_zret hx hb hr hlk (rfl) hW (E, nI 0) (by unfold po_X5_isWord; exact Or.inr ⟨rfl, by first | exact isW_np c_8 | exact (by rw [hxv]; exact wdk_x hv2 hn0)⟩) (rfl) (by omega) (by omega) dX5_isWord_113
  · obtain ⟨v, hv2, hxv⟩ := nI_of (fun h9 => c_8 (Int32.le_of_lt h9))
    have hv1 : 1 ≤ v := (Nat.eq_zero_or_pos v).elim (fun q9 => absurd (by rw [hxv, q9]; decide) c_8) id
    have hl : lv_has ls 5 [(2, .int (nI v)), (0, .ref o0), (1, .int (nI v))] := by rw [← hxv]; exact hl
    refine lv_iconst (v := nI 1) hx hb dX5_isWord_11 (by decide) ?_
    refine lv_goto (tgt := 16) hx hb dX5_isWord_12 (by decide) ?_
    refine lv_istore_n (lv' := [(3, .int (nI 1)), (2, .int (nI v)), (0, .ref o0), (1, .int (nI v))]) hx hb dX5_isWord_16 rfl hl (by decide) rfl (fun ls hl => ?_)
    have loop_17 : ∀ (n : Nat) (j : Nat) (rs : Nat), (j ≤ 6) → (rs = v / 27 ^ j) → (∀ i9, i9 < j → dgt v i9 ≠ 0) → (rs < n) → ∀ (H : Heap) (locs : List Loc) (ls : Array Slot), zW Z s A [(o0, .inr (5, [.int th, .int dy, .int me, .int co, .int (nI np), .int ca, .int br, .int ml, .ref o1, .ref o2, .ref o3, .ref o4, .ref o5, .ref o6, .int (nI j), .ref o7, .ref o8])), (o6, zI Z 6 E)] H locs → lv_has ls 5 [(3, .int (nI 1)), (2, .int (nI rs)), (0, .ref o0), (1, .int (nI v))] → W p l e rm_X5_isWord s m ([.ref o0, .int x] : List Value).toArray below meth c H locs 0 0 (MQ below (zQi Z (po_X5_isWord Z o0 o1 o2 o3 o4 o5 o6 o7 o8 np th dy me co ca br ml le E x) (wp_X5_isWord Z o0 o1 o2 o3 o4 o5 o6 o7 o8 np th dy me co ca br ml le E x) A) ([.ref o0, .int x] : List Value).toArray s 0 0 A) (F0 m 17 ls []) := by
      intro n
      induction n with
      | zero =>
        intro j rs hj hrs hsp hm
        exact absurd hm (Nat.not_lt_zero _)
      | succ n ih =>
        intro j rs hj hrs hsp hm H locs ls hW hl
        have ih_17 := ih
        have hrv : rs ≤ v := by rw [hrs]; exact Nat.div_le_self _ _
        refine lv_iload_n hx hb dX5_isWord_17 rfl (lv_at hl 1 rfl) ?_
        refine zn_if_le (tgt := 69) (a := rs) hx hb (by omega) dX5_isWord_18 (by decide) (fun c_18 => ?_) (fun c_18 => ?_)
        · refine lv_iload_n hx hb dX5_isWord_69 rfl (lv_at hl 3 rfl) ?_
          refine lv_istore_n (lv' := [(2, .int (nI v)), (3, .int (nI 1)), (0, .ref o0), (1, .int (nI v))]) hx hb dX5_isWord_70 rfl hl (by decide) rfl (fun ls hl => ?_)
          have hj1 : 1 ≤ j := (Nat.eq_zero_or_pos j).elim (fun q9 => by rw [q9] at hrs; simp at hrs; omega) id
          have hk9 : wdk v j := ⟨hj1, hj, by rw [← hrs]; exact c_18, hsp⟩
          refine lv_aload_n hx hb dX5_isWord_71 rfl (lv_at hl 2 rfl) ?_
          refine z_get (C := RX5) (T := TX5) (N := 17) hx hb hts mw_X5_isWord_1 hown hX hW 0 rfl rfl 14 (by decide) mw_X5_isWord_0 (fun _ h9 => h9) rfl dX5_isWord_72 ?_
          refine lv_iconst (v := nI 1) hx hb dX5_isWord_75 (by decide) ?_
          refine lv_isub hx hb dX5_isWord_76 ?_
          refine zw_topi (y := (wk j 0)) (by rw [wk_lt (by omega)]; exact pk_sub (by omega)) ?_
          refine lv_istore (lv' := [(4, .int (wk j 0)), (2, .int (nI v)), (3, .int (nI 1)), (0, .ref o0), (1, .int (nI v))]) hx hb dX5_isWord_77 hl (by decide) rfl (fun ls hl => ?_)
          have loop_79 : ∀ (n : Nat) (t : Nat) (rq : Nat) (E8 : Nat → Int32), (t ≤ j) → (rq = v / 27 ^ t) → (∀ i9, i9 < t → E8 (j - 1 - i9) = nI (dgt v i9 - 1)) → (j - t < n) → ∀ (H : Heap) (locs : List Loc) (ls : Array Slot), zW Z s A [(o0, .inr (5, [.int th, .int dy, .int me, .int co, .int (nI np), .int ca, .int br, .int ml, .ref o1, .ref o2, .ref o3, .ref o4, .ref o5, .ref o6, .int (nI j), .ref o7, .ref o8])), (o6, zI Z 6 E8)] H locs → lv_has ls 5 [(4, .int (wk j t)), (2, .int (nI rq)), (3, .int (nI 1)), (0, .ref o0), (1, .int (nI v))] → W p l e rm_X5_isWord s m ([.ref o0, .int x] : List Value).toArray below meth c H locs 0 0 (MQ below (zQi Z (po_X5_isWord Z o0 o1 o2 o3 o4 o5 o6 o7 o8 np th dy me co ca br ml le E x) (wp_X5_isWord Z o0 o1 o2 o3 o4 o5 o6 o7 o8 np th dy me co ca br ml le E x) A) ([.ref o0, .int x] : List Value).toArray s 0 0 A) (F0 m 79 ls []) := by
            intro n
            induction n with
            | zero =>
              intro t rq E8 ht hrq hE hm
              exact absurd hm (Nat.not_lt_zero _)
            | succ n ih =>
              intro t rq E8 ht hrq hE hm H locs ls hW hl
              have ih_79 := ih
              have hrv : rq ≤ v := by rw [hrq]; exact Nat.div_le_self _ _
              rcases Nat.lt_or_ge t j with ht9 | ht9
              · rw [wk_lt ht9] at hl
                have hdt : rq % 27 ≠ 0 := by rw [hrq]; exact hk9.2.2.2 t ht9
                have hl : lv_has ls 5 [(4, .int (nI (j - 1 - t))), (2, .int (nI rq)), (3, .int (nI 1)), (0, .ref o0), (1, .int (nI v))] := hl
                refine lv_iload hx hb dX5_isWord_79 (lv_at hl 0 rfl) ?_
                refine zn_if_lt (tgt := 112) (a := (j - 1 - t)) hx hb (by omega) dX5_isWord_81 (by decide) ?_
                refine lv_iload_n hx hb dX5_isWord_84 rfl (lv_at hl 2 rfl) ?_
                refine zn_if_eq (tgt := 112) (a := 1) hx hb (by omega) dX5_isWord_85 (by decide) (fun c_85 => (absurd c_85 (by decide) : False).elim) (fun c_85 => ?_)
                refine lv_aload_n hx hb dX5_isWord_88 rfl (lv_at hl 3 rfl) ?_
                refine z_get (C := RX5) (T := TX5) (N := 17) hx hb hts mw_X5_isWord_1 hown hX hW 0 rfl rfl 13 (by decide) mw_X5_isWord_2 (fun _ h9 => h9) rfl dX5_isWord_89 ?_
                refine lv_iload hx hb dX5_isWord_92 (lv_at hl 0 rfl) ?_
                refine lv_iload_n hx hb dX5_isWord_94 rfl (lv_at hl 1 rfl) ?_
                refine lv_bipush (v := nI 27) hx hb dX5_isWord_95 (by decide) ?_
                refine lv_irem hx hb dX5_isWord_97 (by decide) ?_
                refine zw_topi (pk_rem (by omega) (by omega) (by omega)) ?_
                refine lv_iconst (v := nI 1) hx hb dX5_isWord_98 (by decide) ?_
                refine lv_isub hx hb dX5_isWord_99 ?_
                refine zw_topi (y := (nI (rq % 27 - 1))) (pk_sub (by omega)) ?_
                refine z_iast hx hb hX hW 1 rfl (k := (j - 1 - t)) (by omega) (by omega) dX5_isWord_100 (fun H locs hW => ?_)
                have hW : zW Z s A [(o0, .inr (5, [.int th, .int dy, .int me, .int co, .int (nI np), .int ca, .int br, .int ml, .ref o1, .ref o2, .ref o3, .ref o4, .ref o5, .ref o6, .int (nI j), .ref o7, .ref o8])), (o6, zI Z 6 (upd E8 (j - 1 - t) (nI (rq % 27 - 1))))] _ _ := hW
                refine lv_iload_n hx hb dX5_isWord_101 rfl (lv_at hl 1 rfl) ?_
                refine lv_bipush (v := nI 27) hx hb dX5_isWord_102 (by decide) ?_
                refine lv_idiv hx hb dX5_isWord_104 (by decide) ?_
                refine zw_topi (pk_div (by omega) (by omega) (by omega)) ?_
                refine lv_istore_n (lv' := [(2, .int (nI (rq / 27))), (4, .int (nI (j - 1 - t))), (3, .int (nI 1)), (0, .ref o0), (1, .int (nI v))]) hx hb dX5_isWord_105 rfl hl (by decide) rfl (fun ls hl => ?_)
                refine lv_iinc (v := wk j (t + 1)) (lv' := [(4, .int (wk j (t + 1))), (2, .int (nI (rq / 27))), (3, .int (nI 1)), (0, .ref o0), (1, .int (nI v))]) hx hb dX5_isWord_106 hl (k := 1) rfl (wk_s ht9) (by decide) rfl (fun ls hl => ?_)
                refine lv_goto (tgt := 79) hx hb dX5_isWord_109 (by decide) ?_
                have hl : lv_has ls 5 [(4, .int (wk j (t + 1))), (2, .int (nI (rq / 27))), (3, .int (nI 1)), (0, .ref o0), (1, .int (nI v))] := lv_sub hl [0, 1, 2, 3, 4] rfl
                exact ih_79 (t + 1) (rq / 27) (upd E8 (j - 1 - t) (nI (rq % 27 - 1))) (by omega) (by rw [hrq, Nat.div_div_eq_div_mul, Nat.pow_succ]) (by rw [hrq]; exact wl_upd ht9 hE) (by omega) _ _ _ hW hl
              · rw [wk_ge ht9] at hl
                have hl : lv_has ls 5 [(4, .int (-1)), (2, .int (nI rq)), (3, .int (nI 1)), (0, .ref o0), (1, .int (nI v))] := hl
                refine lv_iload hx hb dX5_isWord_79 (lv_at hl 0 rfl) ?_
                refine lv_if_lt (tgt := 112) hx hb dX5_isWord_81 (by decide) (fun c_81 => ?_) (fun c_81 => absurd (by decide) c_81)
                refine lv_iload_n hx hb dX5_isWord_112 rfl (lv_at hl 2 rfl) ?_
                exact z_zret hx hb hr hlk (rfl) hW (E8, nI j) (by unfold po_X5_isWord; exact Or.inl ⟨rfl, isWord_1 hv2 hxv hk9 (wdM_of hk9 (by rw [show t = j by omega] at hE; exact hE))⟩) (rfl) (by omega) (by omega) dX5_isWord_113
          have hl : lv_has ls 5 [(4, .int (wk j 0)), (2, .int (nI v)), (3, .int (nI 1)), (0, .ref o0), (1, .int (nI v))] := lv_sub hl [0, 1, 2, 3, 4] rfl
          exact loop_79 _ 0 v E (by omega) (by simp) (fun _ h9 => absurd h9 (Nat.not_lt_zero _)) (Nat.lt_succ_self _) _ _ _ hW hl
        · refine lv_iload_n hx hb dX5_isWord_21 rfl (lv_at hl 0 rfl) ?_
          refine zn_if_eq (tgt := 69) (a := 1) hx hb (by omega) dX5_isWord_22 (by decide) (fun c_22 => (absurd c_22 (by decide) : False).elim) (fun c_22 => ?_)
          refine lv_iload_n hx hb dX5_isWord_25 rfl (lv_at hl 1 rfl) ?_
          refine lv_bipush (v := nI 27) hx hb dX5_isWord_26 (by decide) ?_
          refine lv_irem hx hb dX5_isWord_28 (by decide) ?_
          refine zw_topi (pk_rem (by omega) (by omega) (by omega)) ?_
          refine zn_if_le (tgt := 45) (a := (rs % 27)) hx hb (by omega) dX5_isWord_29 (by decide) (fun c_29 => ?_) (fun c_29 => ?_)
          · have hn0 := wdk_no (v := v) (j := j) (by rw [hrs] at c_29; exact c_29) (by rw [← hrs]; omega)
            refine lv_iconst (v := nI 0) hx hb dX5_isWord_45 (by decide) ?_
            refine lv_istore_n (lv' := [(3, .int (nI 0)), (2, .int (nI rs)), (0, .ref o0), (1, .int (nI v))]) hx hb dX5_isWord_46 rfl hl (by decide) rfl (fun ls hl => ?_)
            refine lv_iload_n hx hb dX5_isWord_47 rfl (lv_at hl 0 rfl) ?_
            refine zn_if_eq (tgt := 61) (a := 0) hx hb (by omega) dX5_isWord_48 (by decide) (fun c_48 => ?_) (fun c_48 => absurd rfl c_48)
            refine lv_iload_n hx hb dX5_isWord_61 rfl (lv_at hl 1 rfl) ?_
            refine lv_bipush (v := nI 27) hx hb dX5_isWord_62 (by decide) ?_
            refine lv_idiv hx hb dX5_isWord_64 (by decide) ?_
            refine zw_topi (pk_div (by omega) (by omega) (by omega)) ?_
            refine lv_istore_n (lv' := [(2, .int (nI (rs / 27))), (3, .int (nI 0)), (0, .ref o0), (1, .int (nI v))]) hx hb dX5_isWord_65 rfl hl (by decide) rfl (fun ls hl => ?_)
            refine lv_goto (tgt := 17) hx hb dX5_isWord_66 (by decide) ?_
            refine lv_iload_n hx hb dX5_isWord_17 rfl (lv_at hl 0 rfl) ?_
            refine zn_if_le (tgt := 69) (a := (rs / 27)) hx hb (by omega) dX5_isWord_18 (by decide) (fun c_18 => ?_) (fun c_18 => ?_)
            · refine lv_iload_n hx hb dX5_isWord_69 rfl (lv_at hl 3 rfl) ?_
              refine lv_istore_n (lv' := [(2, .int (nI v)), (3, .int (nI 0)), (0, .ref o0), (1, .int (nI v))]) hx hb dX5_isWord_70 rfl hl (by decide) rfl (fun ls hl => ?_)
              refine lv_aload_n hx hb dX5_isWord_71 rfl (lv_at hl 2 rfl) ?_
              refine z_get (C := RX5) (T := TX5) (N := 17) hx hb hts mw_X5_isWord_1 hown hX hW 0 rfl rfl 14 (by decide) mw_X5_isWord_0 (fun _ h9 => h9) rfl dX5_isWord_72 ?_
              refine lv_iconst (v := nI 1) hx hb dX5_isWord_75 (by decide) ?_
              refine lv_isub hx hb dX5_isWord_76 ?_
              refine zw_topi (y := (nI j - nI 1)) (rfl) ?_
              refine lv_istore (lv' := [(4, .int (nI j - nI 1)), (2, .int (nI v)), (3, .int (nI 0)), (0, .ref o0), (1, .int (nI v))]) hx hb dX5_isWord_77 hl (by decide) rfl (fun ls hl => ?_)
              refine lv_iload hx hb dX5_isWord_79 (lv_at hl 0 rfl) ?_
              refine lv_if_lt (tgt := 112) hx hb dX5_isWord_81 (by decide) (fun c_81 => ?_) (fun c_81 => ?_)
              · refine lv_iload_n hx hb dX5_isWord_112 rfl (lv_at hl 2 rfl) ?_
                exact z_zret hx hb hr hlk (rfl) hW (E, nI j) (by unfold po_X5_isWord; exact Or.inr ⟨rfl, by first | exact isW_np c_8 | exact (by rw [hxv]; exact wdk_x hv2 hn0)⟩) (rfl) (by omega) (by omega) dX5_isWord_113
              · refine lv_iload_n hx hb dX5_isWord_84 rfl (lv_at hl 2 rfl) ?_
                refine zn_if_eq (tgt := 112) (a := 0) hx hb (by omega) dX5_isWord_85 (by decide) (fun c_85 => ?_) (fun c_85 => absurd rfl c_85)
                refine lv_iload_n hx hb dX5_isWord_112 rfl (lv_at hl 2 rfl) ?_
                exact z_zret hx hb hr hlk (rfl) hW (E, nI j) (by unfold po_X5_isWord; exact Or.inr ⟨rfl, by first | exact isW_np c_8 | exact (by rw [hxv]; exact wdk_x hv2 hn0)⟩) (rfl) (by omega) (by omega) dX5_isWord_113
            · refine lv_iload_n hx hb dX5_isWord_21 rfl (lv_at hl 1 rfl) ?_
              refine zn_if_eq (tgt := 69) (a := 0) hx hb (by omega) dX5_isWord_22 (by decide) (fun c_22 => ?_) (fun c_22 => absurd rfl c_22)
              refine lv_iload_n hx hb dX5_isWord_69 rfl (lv_at hl 3 rfl) ?_
              refine lv_istore_n (lv' := [(2, .int (nI v)), (3, .int (nI 0)), (0, .ref o0), (1, .int (nI v))]) hx hb dX5_isWord_70 rfl hl (by decide) rfl (fun ls hl => ?_)
              refine lv_aload_n hx hb dX5_isWord_71 rfl (lv_at hl 2 rfl) ?_
              refine z_get (C := RX5) (T := TX5) (N := 17) hx hb hts mw_X5_isWord_1 hown hX hW 0 rfl rfl 14 (by decide) mw_X5_isWord_0 (fun _ h9 => h9) rfl dX5_isWord_72 ?_
              refine lv_iconst (v := nI 1) hx hb dX5_isWord_75 (by decide) ?_
              refine lv_isub hx hb dX5_isWord_76 ?_
              refine zw_topi (y := (nI j - nI 1)) (rfl) ?_
              refine lv_istore (lv' := [(4, .int (nI j - nI 1)), (2, .int (nI v)), (3, .int (nI 0)), (0, .ref o0), (1, .int (nI v))]) hx hb dX5_isWord_77 hl (by decide) rfl (fun ls hl => ?_)
              refine lv_iload hx hb dX5_isWord_79 (lv_at hl 0 rfl) ?_
              refine lv_if_lt (tgt := 112) hx hb dX5_isWord_81 (by decide) (fun c_81 => ?_) (fun c_81 => ?_)
              · refine lv_iload_n hx hb dX5_isWord_112 rfl (lv_at hl 2 rfl) ?_
                exact z_zret hx hb hr hlk (rfl) hW (E, nI j) (by unfold po_X5_isWord; exact Or.inr ⟨rfl, by first | exact isW_np c_8 | exact (by rw [hxv]; exact wdk_x hv2 hn0)⟩) (rfl) (by omega) (by omega) dX5_isWord_113
              · refine lv_iload_n hx hb dX5_isWord_84 rfl (lv_at hl 2 rfl) ?_
                refine zn_if_eq (tgt := 112) (a := 0) hx hb (by omega) dX5_isWord_85 (by decide) (fun c_85 => ?_) (fun c_85 => absurd rfl c_85)
                refine lv_iload_n hx hb dX5_isWord_112 rfl (lv_at hl 2 rfl) ?_
                exact z_zret hx hb hr hlk (rfl) hW (E, nI j) (by unfold po_X5_isWord; exact Or.inr ⟨rfl, by first | exact isW_np c_8 | exact (by rw [hxv]; exact wdk_x hv2 hn0)⟩) (rfl) (by omega) (by omega) dX5_isWord_113
          · have hd9 : dgt v j ≠ 0 := by rw [hrs] at c_29; exact c_29
            refine lv_aload_n hx hb dX5_isWord_32 rfl (lv_at hl 2 rfl) ?_
            refine z_get (C := RX5) (T := TX5) (N := 17) hx hb hts mw_X5_isWord_1 hown hX hW 0 rfl rfl 14 (by decide) mw_X5_isWord_0 (fun _ h9 => h9) rfl dX5_isWord_33 ?_
            refine lv_bipush (v := nI 6) hx hb dX5_isWord_36 (by decide) ?_
            refine zn_icmp_ge (tgt := 45) (a := j) (b := 6) hx hb (by omega) (by omega) dX5_isWord_38 (by decide) (fun c_38 => ?_) (fun c_38 => ?_)
            · have hn0 := wdk_n6 (v := v) (j := j) c_38 (by rw [← hrs]; omega)
              refine lv_iconst (v := nI 0) hx hb dX5_isWord_45 (by decide) ?_
              refine lv_istore_n (lv' := [(3, .int (nI 0)), (2, .int (nI rs)), (0, .ref o0), (1, .int (nI v))]) hx hb dX5_isWord_46 rfl hl (by decide) rfl (fun ls hl => ?_)
              refine lv_iload_n hx hb dX5_isWord_47 rfl (lv_at hl 0 rfl) ?_
              refine zn_if_eq (tgt := 61) (a := 0) hx hb (by omega) dX5_isWord_48 (by decide) (fun c_48 => ?_) (fun c_48 => absurd rfl c_48)
              refine lv_iload_n hx hb dX5_isWord_61 rfl (lv_at hl 1 rfl) ?_
              refine lv_bipush (v := nI 27) hx hb dX5_isWord_62 (by decide) ?_
              refine lv_idiv hx hb dX5_isWord_64 (by decide) ?_
              refine zw_topi (pk_div (by omega) (by omega) (by omega)) ?_
              refine lv_istore_n (lv' := [(2, .int (nI (rs / 27))), (3, .int (nI 0)), (0, .ref o0), (1, .int (nI v))]) hx hb dX5_isWord_65 rfl hl (by decide) rfl (fun ls hl => ?_)
              refine lv_goto (tgt := 17) hx hb dX5_isWord_66 (by decide) ?_
              refine lv_iload_n hx hb dX5_isWord_17 rfl (lv_at hl 0 rfl) ?_
              refine zn_if_le (tgt := 69) (a := (rs / 27)) hx hb (by omega) dX5_isWord_18 (by decide) (fun c_18 => ?_) (fun c_18 => ?_)
              · refine lv_iload_n hx hb dX5_isWord_69 rfl (lv_at hl 3 rfl) ?_
                refine lv_istore_n (lv' := [(2, .int (nI v)), (3, .int (nI 0)), (0, .ref o0), (1, .int (nI v))]) hx hb dX5_isWord_70 rfl hl (by decide) rfl (fun ls hl => ?_)
                refine lv_aload_n hx hb dX5_isWord_71 rfl (lv_at hl 2 rfl) ?_
                refine z_get (C := RX5) (T := TX5) (N := 17) hx hb hts mw_X5_isWord_1 hown hX hW 0 rfl rfl 14 (by decide) mw_X5_isWord_0 (fun _ h9 => h9) rfl dX5_isWord_72 ?_
                refine lv_iconst (v := nI 1) hx hb dX5_isWord_75 (by decide) ?_
                refine lv_isub hx hb dX5_isWord_76 ?_
                refine zw_topi (y := (nI j - nI 1)) (rfl) ?_
                refine lv_istore (lv' := [(4, .int (nI j - nI 1)), (2, .int (nI v)), (3, .int (nI 0)), (0, .ref o0), (1, .int (nI v))]) hx hb dX5_isWord_77 hl (by decide) rfl (fun ls hl => ?_)
                refine lv_iload hx hb dX5_isWord_79 (lv_at hl 0 rfl) ?_
                refine lv_if_lt (tgt := 112) hx hb dX5_isWord_81 (by decide) (fun c_81 => ?_) (fun c_81 => ?_)
                · refine lv_iload_n hx hb dX5_isWord_112 rfl (lv_at hl 2 rfl) ?_
                  exact z_zret hx hb hr hlk (rfl) hW (E, nI j) (by unfold po_X5_isWord; exact Or.inr ⟨rfl, by first | exact isW_np c_8 | exact (by rw [hxv]; exact wdk_x hv2 hn0)⟩) (rfl) (by omega) (by omega) dX5_isWord_113
                · refine lv_iload_n hx hb dX5_isWord_84 rfl (lv_at hl 2 rfl) ?_
                  refine zn_if_eq (tgt := 112) (a := 0) hx hb (by omega) dX5_isWord_85 (by decide) (fun c_85 => ?_) (fun c_85 => absurd rfl c_85)
                  refine lv_iload_n hx hb dX5_isWord_112 rfl (lv_at hl 2 rfl) ?_
                  exact z_zret hx hb hr hlk (rfl) hW (E, nI j) (by unfold po_X5_isWord; exact Or.inr ⟨rfl, by first | exact isW_np c_8 | exact (by rw [hxv]; exact wdk_x hv2 hn0)⟩) (rfl) (by omega) (by omega) dX5_isWord_113
              · refine lv_iload_n hx hb dX5_isWord_21 rfl (lv_at hl 1 rfl) ?_
                refine zn_if_eq (tgt := 69) (a := 0) hx hb (by omega) dX5_isWord_22 (by decide) (fun c_22 => ?_) (fun c_22 => absurd rfl c_22)
                refine lv_iload_n hx hb dX5_isWord_69 rfl (lv_at hl 3 rfl) ?_
                refine lv_istore_n (lv' := [(2, .int (nI v)), (3, .int (nI 0)), (0, .ref o0), (1, .int (nI v))]) hx hb dX5_isWord_70 rfl hl (by decide) rfl (fun ls hl => ?_)
                refine lv_aload_n hx hb dX5_isWord_71 rfl (lv_at hl 2 rfl) ?_
                refine z_get (C := RX5) (T := TX5) (N := 17) hx hb hts mw_X5_isWord_1 hown hX hW 0 rfl rfl 14 (by decide) mw_X5_isWord_0 (fun _ h9 => h9) rfl dX5_isWord_72 ?_
                refine lv_iconst (v := nI 1) hx hb dX5_isWord_75 (by decide) ?_
                refine lv_isub hx hb dX5_isWord_76 ?_
                refine zw_topi (y := (nI j - nI 1)) (rfl) ?_
                refine lv_istore (lv' := [(4, .int (nI j - nI 1)), (2, .int (nI v)), (3, .int (nI 0)), (0, .ref o0), (1, .int (nI v))]) hx hb dX5_isWord_77 hl (by decide) rfl (fun ls hl => ?_)
                refine lv_iload hx hb dX5_isWord_79 (lv_at hl 0 rfl) ?_
                refine lv_if_lt (tgt := 112) hx hb dX5_isWord_81 (by decide) (fun c_81 => ?_) (fun c_81 => ?_)
                · refine lv_iload_n hx hb dX5_isWord_112 rfl (lv_at hl 2 rfl) ?_
                  exact z_zret hx hb hr hlk (rfl) hW (E, nI j) (by unfold po_X5_isWord; exact Or.inr ⟨rfl, by first | exact isW_np c_8 | exact (by rw [hxv]; exact wdk_x hv2 hn0)⟩) (rfl) (by omega) (by omega) dX5_isWord_113
                · refine lv_iload_n hx hb dX5_isWord_84 rfl (lv_at hl 2 rfl) ?_
                  refine zn_if_eq (tgt := 112) (a := 0) hx hb (by omega) dX5_isWord_85 (by decide) (fun c_85 => ?_) (fun c_85 => absurd rfl c_85)
                  refine lv_iload_n hx hb dX5_isWord_112 rfl (lv_at hl 2 rfl) ?_
                  exact z_zret hx hb hr hlk (rfl) hW (E, nI j) (by unfold po_X5_isWord; exact Or.inr ⟨rfl, by first | exact isW_np c_8 | exact (by rw [hxv]; exact wdk_x hv2 hn0)⟩) (rfl) (by omega) (by omega) dX5_isWord_113
            · refine lv_iconst (v := nI 1) hx hb dX5_isWord_41 (by decide) ?_
              refine lv_goto (tgt := 46) hx hb dX5_isWord_42 (by decide) ?_
              refine lv_istore_n (lv' := [(3, .int (nI 1)), (2, .int (nI rs)), (0, .ref o0), (1, .int (nI v))]) hx hb dX5_isWord_46 rfl hl (by decide) rfl (fun ls hl => ?_)
              refine lv_iload_n hx hb dX5_isWord_47 rfl (lv_at hl 0 rfl) ?_
              refine zn_if_eq (tgt := 61) (a := 1) hx hb (by omega) dX5_isWord_48 (by decide) (fun c_48 => (absurd c_48 (by decide) : False).elim) (fun c_48 => ?_)
              refine lv_aload_n hx hb dX5_isWord_51 rfl (lv_at hl 2 rfl) ?_
              refine lv_dup hx hb dX5_isWord_52 rfl ?_
              refine z_get (C := RX5) (T := TX5) (N := 17) hx hb hts mw_X5_isWord_1 hown hX hW 0 rfl rfl 14 (by decide) mw_X5_isWord_0 (fun _ h9 => h9) rfl dX5_isWord_53 ?_
              refine lv_iconst (v := nI 1) hx hb dX5_isWord_56 (by decide) ?_
              refine lv_iadd hx hb dX5_isWord_57 ?_
              refine zw_topi (nI_add _ _) ?_
              refine z_put (C := RX5) (T := TX5) (N := 17) (v := .int (nI (j + 1))) (ty := .int) hx hb hts mw_X5_isWord_1 tyX5 tyX5_ok nmX5 hown hX hW 0 rfl rfl 14 (by decide) mw_X5_isWord_0 (fun _ h9 => h9) rfl (by decide +kernel) rfl rfl (Nat.le_of_ble_eq_true rfl) dX5_isWord_58 (fun H locs hW => ?_)
              have hW : zW Z s A [(o0, .inr (5, [.int th, .int dy, .int me, .int co, .int (nI np), .int ca, .int br, .int ml, .ref o1, .ref o2, .ref o3, .ref o4, .ref o5, .ref o6, .int (nI (j + 1)), .ref o7, .ref o8])), (o6, zI Z 6 E)] _ _ := hW
              refine lv_iload_n hx hb dX5_isWord_61 rfl (lv_at hl 1 rfl) ?_
              refine lv_bipush (v := nI 27) hx hb dX5_isWord_62 (by decide) ?_
              refine lv_idiv hx hb dX5_isWord_64 (by decide) ?_
              refine zw_topi (pk_div (by omega) (by omega) (by omega)) ?_
              refine lv_istore_n (lv' := [(2, .int (nI (rs / 27))), (3, .int (nI 1)), (0, .ref o0), (1, .int (nI v))]) hx hb dX5_isWord_65 rfl hl (by decide) rfl (fun ls hl => ?_)
              refine lv_goto (tgt := 17) hx hb dX5_isWord_66 (by decide) ?_
              have hl : lv_has ls 5 [(3, .int (nI 1)), (2, .int (nI (rs / 27))), (0, .ref o0), (1, .int (nI v))] := lv_sub hl [1, 0, 2, 3] rfl
              exact ih_17 (j + 1) (rs / 27) (by omega) (by rw [hrs, Nat.div_div_eq_div_mul, Nat.pow_succ]) (al_s hsp hd9) (by omega) _ _ _ hW hl
    have hl : lv_has ls 5 [(3, .int (nI 1)), (2, .int (nI v)), (0, .ref o0), (1, .int (nI v))] := lv_sub hl [0, 1, 2, 3] rfl
    exact loop_17 _ 0 v (by omega) (by simp) (fun _ h9 => absurd h9 (Nat.not_lt_zero _)) (Nat.lt_succ_self _) _ _ _ hW hl
