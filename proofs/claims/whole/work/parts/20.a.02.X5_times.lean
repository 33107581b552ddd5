theorem mw_X5_times_0 : Cond.fieldLink RX5 38 "TypeFoundryModel" "thrown" "I" ∈ wsX5_times := by decide +kernel
theorem mw_X5_times_1 : ∀ w ∈ wsX50, w ∈ wsX5_times := by decide +kernel
abbrev wp_X5_times (Z : zT) (o0 o1 o2 o3 o4 o5 o6 o7 o8 np : Nat) (th dy me co ca br ml le : Int32) (S E Tk Lf : Nat → Int32) (F G pn : Nat → Nat → Int32) (pv wv : Int32) : Int32 × Int32 × (Nat → Int32) × (Nat → Int32) × (Nat → Int32) → va_W := fun (u : Int32 × Int32 × (Nat → Int32) × (Nat → Int32) × (Nat → Int32)) => match u with | (th_1, le_1, E_1, Tk_1, Lf_1) => [(o0, .inr (5, [.int th_1, .int dy, .int me, .int co, .int (nI np), .int ca, .int br, .int ml, .ref o1, .ref o2, .ref o3, .ref o4, .ref o5, .ref o6, .int le_1, .ref o7, .ref o8])), (o1, zI Z 3770 (stF S F G)), (o2, zI Z 6 (qF pn 0)), (o3, zI Z 6 (qF pn 1)), (o4, zI Z 6 (qF pn 2)), (o5, zI Z 6 (qF pn 3)), (o6, zI Z 6 E_1), (o7, zI Z 29 Tk_1), (o8, zI Z 29 Lf_1)]
abbrev po_X5_times (Z : zT) (o0 o1 o2 o3 o4 o5 o6 o7 o8 np : Nat) (th dy me co ca br ml le : Int32) (S E Tk Lf : Nat → Int32) (F G pn : Nat → Nat → Int32) (pv wv : Int32) : Int32 → Int32 × Int32 × (Nat → Int32) × (Nat → Int32) × (Nat → Int32) → Prop := fun (r : Int32) (u : Int32 × Int32 × (Nat → Int32) × (Nat → Int32) × (Nat → Int32)) => match u with | (th_1, le_1, E_1, Tk_1, Lf_1) => (th_1 = nI 0 ∧ 0 = cdx (¬ isP pv np) (¬ isW wv) (False) ∧ r = mt (wla wv) (wkk wv) (tt (lk (F (sn pv))) 29 + 1) 0 (lk (F (sn pv)))) ∨ (∃ k9, 1 ≤ k9 ∧ k9 = cdx (¬ isP pv np) (¬ isW wv) (False) ∧ th_1 = nI k9)
abbrev rm_X5_times : Room := { frames := 2, cells := 0, slots := 0, locals := 46 }
set_option maxHeartbeats 4000000 in
set_option maxRecDepth 100000 in
theorem c_X5_times (l : Launch) (Z : zT) (o0 o1 o2 o3 o4 o5 o6 o7 o8 np : Nat) (th dy me co ca br ml le : Int32) (S E Tk Lf : Nat → Int32) (F G pn : Nat → Nat → Int32) (pv wv : Int32) (hG : GA S F G) (hnp : np ≤ 6) : zMet l yX5_times wsX5_times rm_X5_times [.ref o0, .int pv, .int wv] Z [(o0, .inr (5, [.int th, .int dy, .int me, .int co, .int (nI np), .int ca, .int br, .int ml, .ref o1, .ref o2, .ref o3, .ref o4, .ref o5, .ref o6, .int le, .ref o7, .ref o8])), (o1, zI Z 3770 (stF S F G)), (o2, zI Z 6 (qF pn 0)), (o3, zI Z 6 (qF pn 1)), (o4, zI Z 6 (qF pn 2)), (o5, zI Z 6 (qF pn 3)), (o6, zI Z 6 E), (o7, zI Z 29 Tk), (o8, zI Z 29 Lf)] (zQi Z (po_X5_times Z o0 o1 o2 o3 o4 o5 o6 o7 o8 np th dy me co ca br ml le S E Tk Lf F G pn pv wv) (wp_X5_times Z o0 o1 o2 o3 o4 o5 o6 o7 o8 np th dy me co ca br ml le S E Tk Lf F G pn pv wv)) 0 0 := by
  refine zstart (cc := cX5_times) (maxL := 4) (ret := (some .int)) (by decide) rfl (Nat.le_of_ble_eq_true rfl) ?_
  intro p e s m below meth c ls A hx hb hr hC hlk hnm hX hW hl
  have hml := hC.2.2.1
  have hown : s.vm.findClass RX5 = some m.cls := hC.2.2.2.1
  have hts := hC.2.2.2.2
  have hl : lv_has ls 4 [(0, .ref o0), (1, .int pv), (2, .int wv)] := hl
  refine lv_aload_n hx hb dX5_times_0 rfl (lv_at hl 0 rfl) ?_
  refine lv_iconst (v := nI 0) hx hb dX5_times_1 (by decide) ?_
  refine z_put (C := RX5) (T := TX5) (N := 17) (v := .int (nI 0)) (ty := .int) hx hb hts mw_X5_times_1 tyX5 tyX5_ok nmX5 hown hX hW 0 rfl rfl 0 (by decide) mw_X5_times_0 (fun _ h9 => h9) rfl (by decide +kernel) rfl rfl (Nat.le_of_ble_eq_true rfl) dX5_times_2 (fun H locs hW => ?_)
  have hW : zW Z s A [(o0, .inr (5, [.int (nI 0), .int dy, .int me, .int co, .int (nI np), .int ca, .int br, .int ml, .ref o1, .ref o2, .ref o3, .ref o4, .ref o5, .ref o6, .int le, .ref o7, .ref o8])), (o1, zI Z 3770 (stF S F G)), (o2, zI Z 6 (qF pn 0)), (o3, zI Z 6 (qF pn 1)), (o4, zI Z 6 (qF pn 2)), (o5, zI Z 6 (qF pn 3)), (o6, zI Z 6 E), (o7, zI Z 29 Tk), (o8, zI Z 29 Lf)] _ _ := hW
  refine lv_aload_n hx hb dX5_times_5 rfl (lv_at hl 0 rfl) ?_
  refine lv_iload_n hx hb dX5_times_6 rfl (lv_at hl 1 rfl) ?_
  refine zc_i (va_runV (As := [.int pv]) (rest := []) hC (c_X5_isPrinter l Z o0 o1 o2 o3 o4 o5 o6 o7 o8 np (nI 0) dy me co ca br ml le pv (by omega) _) (cwV 1 hts gX5_times_X5_isPrinter rfl rfl rfl (by decide +kernel) ⟨Nat.le_of_ble_eq_true rfl, Nat.le_of_ble_eq_true rfl⟩) (zpreV (ci := 5) (q0 := 0) hX hW rfl rfl [0] rfl (by decide)) rfl rfl hl.1 rfl (lv_room (Nat.le_of_ble_eq_true rfl)) dX5_times_7 ⟨Nat.le_of_ble_eq_true rfl, Nat.le_of_ble_eq_true rfl⟩) hX hW [0] rfl (by decide) (fun _ => rfl) (fun r_7 u_7 H locs h_7 hW => ?_)
  have hW : zW Z s A [(o0, .inr (5, [.int (nI 0), .int dy, .int me, .int co, .int (nI np), .int ca, .int br, .int ml, .ref o1, .ref o2, .ref o3, .ref o4, .ref o5, .ref o6, .int le, .ref o7, .ref o8])), (o1, zI Z 3770 (stF S F G)), (o2, zI Z 6 (qF pn 0)), (o3, zI Z 6 (qF pn 1)), (o4, zI Z 6 (qF pn 2)), (o5, zI Z 6 (qF pn 3)), (o6, zI Z 6 E), (o7, zI Z 29 Tk), (o8, zI Z 29 Lf)] _ _ := hW
  subst h_7
  refine lv_if_ne (tgt := 19) hx hb dX5_times_10 (by decide) (fun c_10 => ?_) (fun c_10 => ?_)
  · have hP : isP pv np := bI_n c_10
    have hP1 := hP.1
    have hl : lv_has ls 4 [(0, .ref o0), (1, .int (nI (sn pv))), (2, .int wv)] := by rw [← hP.2]; exact hl
    refine lv_aload_n hx hb dX5_times_19 rfl (lv_at hl 0 rfl) ?_
    refine lv_iload_n hx hb dX5_times_20 rfl (lv_at hl 2 rfl) ?_
    refine zc_i (va_runV (As := [.int wv]) (rest := []) hC (c_X5_isWord l Z o0 o1 o2 o3 o4 o5 o6 o7 o8 np (nI 0) dy me co ca br ml le E wv  _) (cwV 1 hts gX5_times_X5_isWord rfl rfl rfl (by decide +kernel) ⟨Nat.le_of_ble_eq_true rfl, Nat.le_of_ble_eq_true rfl⟩) (zpreV (ci := 5) (q0 := 0) hX hW rfl rfl [0, 6] rfl (by decide)) rfl rfl hl.1 rfl (lv_room (Nat.le_of_ble_eq_true rfl)) dX5_times_21 ⟨Nat.le_of_ble_eq_true rfl, Nat.le_of_ble_eq_true rfl⟩) hX hW [0, 6] rfl (by decide) (fun _ => rfl) (fun r_21 u_21 H locs h_21 hW => ?_)
    obtain ⟨E1_21, le1_21⟩ := u_21
    have hW : zW Z s A [(o0, .inr (5, [.int (nI 0), .int dy, .int me, .int co, .int (nI np), .int ca, .int br, .int ml, .ref o1, .ref o2, .ref o3, .ref o4, .ref o5, .ref o6, .int le1_21, .ref o7, .ref o8])), (o1, zI Z 3770 (stF S F G)), (o2, zI Z 6 (qF pn 0)), (o3, zI Z 6 (qF pn 1)), (o4, zI Z 6 (qF pn 2)), (o5, zI Z 6 (qF pn 3)), (o6, zI Z 6 E1_21), (o7, zI Z 29 Tk), (o8, zI Z 29 Lf)] _ _ := hW
    rcases h_21 with ⟨rfl, hW9, hle9, hM9⟩ | ⟨rfl, hW9⟩
    · subst hle9
      have hW : zW Z s A [(o0, .inr (5, [.int (nI 0), .int dy, .int me, .int co, .int (nI np), .int ca, .int br, .int ml, .ref o1, .ref o2, .ref o3, .ref o4, .ref o5, .ref o6, .int (nI (wkk wv)), .ref o7, .ref o8])), (o1, zI Z 3770 (stF S F G)), (o2, zI Z 6 (qF pn 0)), (o3, zI Z 6 (qF pn 1)), (o4, zI Z 6 (qF pn 2)), (o5, zI Z 6 (qF pn 3)), (o6, zI Z 6 E1_21), (o7, zI Z 29 Tk), (o8, zI Z 29 Lf)] _ _ := hW
      refine zn_if_ne (tgt := 33) (a := 1) hx hb (by omega) dX5_times_24 (by decide) (fun c_24 => ?_) (fun c_24 => (absurd c_24 (by decide) : False).elim)
      refine lv_aload_n hx hb dX5_times_33 rfl (lv_at hl 0 rfl) ?_
      refine lv_iload_n hx hb dX5_times_34 rfl (lv_at hl 1 rfl) ?_
      refine zc_v (va_runV (As := [.int (nI (sn pv))]) (rest := []) hC (c_X5_look l Z o0 o1 o2 o3 o4 o5 o6 o7 o8 np (nI 0) dy me co ca br ml (nI (wkk wv)) (stF S F G) Lf (sn pv) (by omega) _) (cwV 1 hts gX5_times_X5_look rfl rfl rfl (by decide +kernel) ⟨Nat.le_of_ble_eq_true rfl, Nat.le_of_ble_eq_true rfl⟩) (zpreV (ci := 5) (q0 := 0) hX hW rfl rfl [0, 1, 8] rfl (by decide)) rfl rfl hl.1 rfl (lv_room (Nat.le_of_ble_eq_true rfl)) dX5_times_35 ⟨Nat.le_of_ble_eq_true rfl, Nat.le_of_ble_eq_true rfl⟩) hX hW [0, 1, 8] rfl (by decide) (fun _ => rfl) (fun u_35 H locs h_35 hW => ?_)
      have hW : zW Z s A [(o0, .inr (5, [.int (nI 0), .int dy, .int me, .int co, .int (nI np), .int ca, .int br, .int ml, .ref o1, .ref o2, .ref o3, .ref o4, .ref o5, .ref o6, .int (nI (wkk wv)), .ref o7, .ref o8])), (o1, zI Z 3770 (stF S F G)), (o2, zI Z 6 (qF pn 0)), (o3, zI Z 6 (qF pn 1)), (o4, zI Z 6 (qF pn 2)), (o5, zI Z 6 (qF pn 3)), (o6, zI Z 6 E1_21), (o7, zI Z 29 Tk), (o8, zI Z 29 (lk (sh (stF S F G) (290 * (1 + (sn pv))))))] _ _ := hW
      have hP6 : sn pv < 6 := by omega
      have hF9 := hG.2.1 (sn pv)
      have hb9 : tt (F (sn pv)) 290 + tt (G (sn pv)) 290 < 2 ^ 31 := (by have := hG.2.2.2; have := tP_le (F := F) hP6; have := tP_le (F := G) hP6; unfold tS at *; omega)
      obtain ⟨hk1, hk6, hka⟩ := isW_la hW9
      rw [sh_F hP6 hF9] at hW
      have hW : zW Z s A [(o0, .inr (5, [.int (nI 0), .int dy, .int me, .int co, .int (nI np), .int ca, .int br, .int ml, .ref o1, .ref o2, .ref o3, .ref o4, .ref o5, .ref o6, .int (nI (wkk wv)), .ref o7, .ref o8])), (o1, zI Z 3770 (stF S F G)), (o2, zI Z 6 (qF pn 0)), (o3, zI Z 6 (qF pn 1)), (o4, zI Z 6 (qF pn 2)), (o5, zI Z 6 (qF pn 3)), (o6, zI Z 6 E1_21), (o7, zI Z 29 Tk), (o8, zI Z 29 (lk (F (sn pv))))] _ _ := hW
      refine lv_iconst (v := nI 0) hx hb dX5_times_38 (by decide) ?_
      refine lv_istore_n (lv' := [(3, .int (nI 0)), (0, .ref o0), (1, .int (nI (sn pv))), (2, .int wv)]) hx hb dX5_times_39 rfl hl (by decide) rfl (fun ls hl => ?_)
      have loop_40 : ∀ (n : Nat) (x : Int32) (lf1 : Nat → Int32) (tk1 : Nat → Int32), (∀ q9, q9 < 29 → nn (lf1 q9)) → (∃ n9, tt lf1 29 < n9 ∧ mt (wla wv) (wkk wv) (tt (lk (F (sn pv))) 29 + 1) 0 (lk (F (sn pv))) = mt (wla wv) (wkk wv) n9 x lf1) → (tt lf1 29 < n) → ∀ (H : Heap) (locs : List Loc) (ls : Array Slot), zW Z s A [(o0, .inr (5, [.int (nI 0), .int dy, .int me, .int co, .int (nI np), .int ca, .int br, .int ml, .ref o1, .ref o2, .ref o3, .ref o4, .ref o5, .ref o6, .int (nI (wkk wv)), .ref o7, .ref o8])), (o1, zI Z 3770 (stF S F G)), (o2, zI Z 6 (qF pn 0)), (o3, zI Z 6 (qF pn 1)), (o4, zI Z 6 (qF pn 2)), (o5, zI Z 6 (qF pn 3)), (o6, zI Z 6 E1_21), (o7, zI Z 29 tk1), (o8, zI Z 29 lf1)] H locs → lv_has ls 4 [(3, .int x), (0, .ref o0), (1, .int (nI (sn pv))), (2, .int wv)] → W p l e rm_X5_times s m ([.ref o0, .int pv, .int wv] : List Value).toArray below meth c H locs 0 0 (MQ below (zQi Z (po_X5_times Z o0 o1 o2 o3 o4 o5 o6 o7 o8 np th dy me co ca br ml le S E Tk Lf F G pn pv wv) (wp_X5_times Z o0 o1 o2 o3 o4 o5 o6 o7 o8 np th dy me co ca br ml le S E Tk Lf F G pn pv wv) A) ([.ref o0, .int pv, .int wv] : List Value).toArray s 0 0 A) (F0 m 40 ls []) := by
        intro n
        induction n with
        | zero =>
          intro x lf1 tk1 hn1 hE hm
          exact absurd hm (Nat.not_lt_zero _)
        | succ n ih =>
          intro x lf1 tk1 hn1 hE hm H locs ls hW hl
          have ih_40 := ih
          refine lv_aload_n hx hb dX5_times_40 rfl (lv_at hl 1 rfl) ?_
          refine zc_i (va_runV (As := []) (rest := []) hC (c_X5_compose l Z o0 o1 o2 o3 o4 o5 o6 o7 o8 np (nI 0) dy me co ca br ml E1_21 tk1 lf1 (wkk wv) (wla wv) hM9 hn1 _) (cwV 0 hts gX5_times_X5_compose rfl rfl rfl (by decide +kernel) ⟨Nat.le_of_ble_eq_true rfl, Nat.le_of_ble_eq_true rfl⟩) (zpreV (ci := 5) (q0 := 0) hX hW rfl rfl [0, 6, 7, 8] rfl (by decide)) rfl rfl hl.1 rfl (lv_room (Nat.le_of_ble_eq_true rfl)) dX5_times_41 ⟨Nat.le_of_ble_eq_true rfl, Nat.le_of_ble_eq_true rfl⟩) hX hW [0, 6, 7, 8] rfl (by decide) (fun _ => rfl) (fun r_41 u_41 H locs h_41 hW => ?_)
          have hW : zW Z s A [(o0, .inr (5, [.int (nI 0), .int dy, .int me, .int co, .int (nI np), .int ca, .int br, .int ml, .ref o1, .ref o2, .ref o3, .ref o4, .ref o5, .ref o6, .int (nI (wkk wv)), .ref o7, .ref o8])), (o1, zI Z 3770 (stF S F G)), (o2, zI Z 6 (qF pn 0)), (o3, zI Z 6 (qF pn 1)), (o4, zI Z 6 (qF pn 2)), (o5, zI Z 6 (qF pn 3)), (o6, zI Z 6 E1_21), (o7, zI Z 29 ((ly0 (wla wv) (wkk wv) lf1).2.2)), (o8, zI Z 29 ((ly0 (wla wv) (wkk wv) lf1).2.1))] _ _ := hW
          subst h_41
          refine lv_iconst (v := -1) hx hb dX5_times_44 (by decide) ?_
          refine lv_icmp_eq (tgt := 54) hx hb dX5_times_45 (by decide) (fun c_45 => ?_) (fun c_45 => ?_)
          · refine lv_iload_n hx hb dX5_times_54 rfl (lv_at hl 0 rfl) ?_
            exact z_iret hx hb hr hlk hW ((nI 0), nI (wkk wv), E1_21, (ly0 (wla wv) (wkk wv) lf1).2.2, (ly0 (wla wv) (wkk wv) lf1).2.1) (by unfold po_X5_times; exact Or.inl ⟨rfl, cdx_0 (fun h6 => h6 hP) (fun h6 => h6 hW9) (fun h6 => h6), (by obtain ⟨n9, hn2, hn3⟩ := hE; rw [hn3, mt_no c_45])⟩) (rfl) (by omega) (by omega) dX5_times_55
          · have hto := ly0_tot hk1 hka hn1 c_45
            refine lv_iinc (v := x + 1) (lv' := [(3, .int (x + 1)), (0, .ref o0), (1, .int (nI (sn pv))), (2, .int wv)]) hx hb dX5_times_48 hl (k := 0) rfl (rfl) (by decide) rfl (fun ls hl => ?_)
            refine lv_goto (tgt := 40) hx hb dX5_times_51 (by decide) ?_
            have hl : lv_has ls 4 [(3, .int (x + 1)), (0, .ref o0), (1, .int (nI (sn pv))), (2, .int wv)] := lv_sub hl [0, 1, 2, 3] rfl
            exact ih_40 (x + 1) ((ly0 (wla wv) (wkk wv) lf1).2.1) ((ly0 (wla wv) (wkk wv) lf1).2.2) (fun q9 h9 => (ly0_keep hk6 hka hn1 q9 h9).1) (by obtain ⟨n9, hn2, hn3⟩ := hE; exact ⟨n9 - 1, by omega, by rw [hn3, show n9 = (n9 - 1) + 1 by omega, mt_s c_45]; rfl⟩) (by omega) _ _ _ hW hl
      have hl : lv_has ls 4 [(3, .int (nI 0)), (0, .ref o0), (1, .int (nI (sn pv))), (2, .int wv)] := lv_sub hl [0, 1, 2, 3] rfl
      exact loop_40 _ (nI 0) (lk (F (sn pv))) Tk (lk_nn hF9 (by omega)) ⟨_, Nat.lt_succ_self _, rfl⟩ (Nat.lt_succ_self _) _ _ _ hW hl
    · refine zn_if_ne (tgt := 33) (a := 0) hx hb (by omega) dX5_times_24 (by decide) (fun c_24 => (absurd c_24 (by decide) : False).elim) (fun c_24 => ?_)
      refine lv_aload_n hx hb dX5_times_27 rfl (lv_at hl 0 rfl) ?_
      refine lv_iconst (v := nI 2) hx hb dX5_times_28 (by decide) ?_
      refine zc_i (va_runV (As := [.int (nI 2)]) (rest := []) hC (c_X5_no l Z o0 o1 o2 o3 o4 o5 o6 o7 o8 np (nI 0) dy me co ca br ml le1_21 2  _) (cwV 1 hts gX5_times_X5_no rfl rfl rfl (by decide +kernel) ⟨Nat.le_of_ble_eq_true rfl, Nat.le_of_ble_eq_true rfl⟩) (zpreV (ci := 5) (q0 := 0) hX hW rfl rfl [0] rfl (by decide)) rfl rfl hl.1 rfl (lv_room (Nat.le_of_ble_eq_true rfl)) dX5_times_29 ⟨Nat.le_of_ble_eq_true rfl, Nat.le_of_ble_eq_true rfl⟩) hX hW [0] rfl (by decide) (fun _ => rfl) (fun r_29 u_29 H locs h_29 hW => ?_)
      have hW : zW Z s A [(o0, .inr (5, [.int (nI 2), .int dy, .int me, .int co, .int (nI np), .int ca, .int br, .int ml, .ref o1, .ref o2, .ref o3, .ref o4, .ref o5, .ref o6, .int le1_21, .ref o7, .ref o8])), (o1, zI Z 3770 (stF S F G)), (o2, zI Z 6 (qF pn 0)), (o3, zI Z 6 (qF pn 1)), (o4, zI Z 6 (qF pn 2)), (o5, zI Z 6 (qF pn 3)), (o6, zI Z 6 E1_21), (o7, zI Z 29 Tk), (o8, zI Z 29 Lf)] _ _ := hW
      subst h_29
      exact z_iret hx hb hr hlk hW (nI 2, le1_21, E1_21, Tk, Lf) (by unfold po_X5_times; exact Or.inr ⟨2, by omega, cdx_2 (fun h6 => h6 hP) hW9, rfl⟩) (rfl) (by omega) (by omega) dX5_times_32
  · refine lv_aload_n hx hb dX5_times_13 rfl (lv_at hl 0 rfl) ?_
    refine lv_iconst (v := nI 1) hx hb dX5_times_14 (by decide) ?_
    refine zc_i (va_runV (As := [.int (nI 1)]) (rest := []) hC (c_X5_no l Z o0 o1 o2 o3 o4 o5 o6 o7 o8 np (nI 0) dy me co ca br ml le 1  _) (cwV 1 hts gX5_times_X5_no rfl rfl rfl (by decide +kernel) ⟨Nat.le_of_ble_eq_true rfl, Nat.le_of_ble_eq_true rfl⟩) (zpreV (ci := 5) (q0 := 0) hX hW rfl rfl [0] rfl (by decide)) rfl rfl hl.1 rfl (lv_room (Nat.le_of_ble_eq_true rfl)) dX5_times_15 ⟨Nat.le_of_ble_eq_true rfl, Nat.le_of_ble_eq_true rfl⟩) hX hW [0] rfl (by decide) (fun _ => rfl) (fun r_15 u_15 H locs h_15 hW => ?_)
    have hW : zW Z s A [(o0, .inr (5, [.int (nI 1), .int dy, .int me, .int co, .int (nI np), .int ca, .int br, .int ml, .ref o1, .ref o2, .ref o3, .ref o4, .ref o5, .ref o6, .int le, .ref o7, .ref o8])), (o1, zI Z 3770 (stF S F G)), (o2, zI Z 6 (qF pn 0)), (o3, zI Z 6 (qF pn 1)), (o4, zI Z 6 (qF pn 2)), (o5, zI Z 6 (qF pn 3)), (o6, zI Z 6 E), (o7, zI Z 29 Tk), (o8, zI Z 29 Lf)] _ _ := hW
    subst h_15
    exact z_iret hx hb hr hlk hW (nI 1, le, E, Tk, Lf) (by unfold po_X5_times; exact Or.inr ⟨1, by omega, cdx_1 (bI_e c_10), rfl⟩) (rfl) (by omega) (by omega) dX5_times_18
