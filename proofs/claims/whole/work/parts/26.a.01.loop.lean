set_option maxHeartbeats 8000000 in
set_option maxRecDepth 100000 in
theorem lw_loop (l : Launch) (Z : zT) {p : Program} {e : Env} {s : State} {m : MethodId} {below : List Frame} {meth : Method} {c : Code} {A : Nat → Prop} {Q : State → Prop} {b LL : Nat} {xs : Nat → Int32} (hfl : l.stackTraces = false) (hx : p.tables.exec = Jvm.exec) (hb : c.code = code) (hC : CallFix p m c code 9 s #[.ref b] wsL_law RL) (hX : zX Z s A) (hsc : va_X b LL xs s s.heap) (hbl : b < s.heap.size) (hbA : ¬ A b) (hLL : LL ≤ 2048) (o0 o1 o2 o3 o4 o5 o6 o7 o8 x st sb pa sp spb se sl sk ou : Nat) (K0 : ∀ (nc cells slots : Nat) (H : Heap) (locs : List Loc) (ls : Array Slot), LI Z s A nc o0 o1 o2 o3 o4 o5 o6 o7 o8 x st sb pa sp spb se sl sk ou H locs → cells ≤ 601024 → slots ≤ 7293034 → W p l e room_1 s m #[.ref b] below meth c H locs cells slots Q (F0 m 1429 ls [])) : ∀ (n nc : Nat) (H : Heap) (locs : List Loc) (ls : Array Slot), LL - 4 * nc < n → 4 * nc ≤ LL → LI Z s A nc o0 o1 o2 o3 o4 o5 o6 o7 o8 x st sb pa sp spb se sl sk ou H locs → lv_has ls 9 [(0, .ref b), (1, .ref x), (2, .ref o0), (3, .ref ou), (4, .int (nI (4 * nc)))] → W p l e room_1 s m #[.ref b] below meth c H locs (19 + 60 * nc) (4255 + 700 * nc) Q (F0 m 23 ls []) := by
  intro n
  induction n with
  | zero => intro nc H locs ls hm; exact absurd hm (Nat.not_lt_zero _)
  | succ n ih =>
    intro nc H locs ls hm hle hI hl
    obtain ⟨ws9, hW⟩ := li_S hI
    refine lv_iload hx hb dL_law_23 (lv_at hl 4 rfl) ?_
    refine lv_aload_n hx hb dL_law_25 rfl (lv_at hl 0 rfl) ?_
    refine z_slen hx hb hsc hbl hbA hW dL_law_26 ?_
    refine lv_iconst (v := nI 4) hx hb dL_law_27 (by decide) ?_
    refine lv_isub hx hb dL_law_28 ?_
    refine lv_icmp_gt (tgt := 1429) hx hb dL_law_29 (by decide) (fun c9 => ?_) (fun c9 => ?_)
    · exact K0 nc _ _ _ _ _ hI (by omega) (by omega)
    · have hii : 4 * nc + 4 ≤ LL := law_more hLL hle (by first | exact c9 | exact Int32.not_lt.mpr c9)
      refine lv_aload_n hx hb dL_law_32 rfl (lv_at hl 0 rfl) ?_
      refine lv_iload hx hb dL_law_33 (lv_at hl 4 rfl) ?_
      refine z_sld hx hb hsc hbl hbA hLL hW (k := 4 * nc) (by omega) dL_law_35 ?_
      refine lv_bipush (v := nI 31) hx hb dL_law_36 (by decide) ?_
      refine lv_iand hx hb dL_law_38 ?_
      obtain ⟨k, hk, ek⟩ := pk_andE (xs (4 * nc)) (m := nI 31) 5 (by decide +kernel)
      refine zw_topi ek ?_
      have K : ∀ (H : Heap) (locs : List Loc) (ls : Array Slot), LI Z s A (nc + 1) o0 o1 o2 o3 o4 o5 o6 o7 o8 x st sb pa sp spb se sl sk ou H locs → lv_has ls 9 [(0, .ref b), (1, .ref x), (2, .ref o0), (3, .ref ou), (4, .int (nI (4 * nc)))] → W p l e room_1 s m #[.ref b] below meth c H locs (19 + 60 * nc + 60) (4255 + 700 * nc + 700) Q (F0 m 1423 ls []) := by
        intro H locs ls hI hl
        refine lv_iinc (v := nI (4 * (nc + 1))) (lv' := [(4, .int (nI (4 * (nc + 1)))), (0, .ref b), (1, .ref x), (2, .ref o0), (3, .ref ou)]) hx hb dL_law_1423 hl (k := 4) rfl (zinc4 _) (by decide) rfl (fun ls hl => ?_)
        refine lv_goto (tgt := 23) hx hb dL_law_1426 (by decide) ?_
        refine W.widen (k := 19 + 60 * (nc + 1)) (n := 4255 + 700 * (nc + 1)) (by omega) (by omega) ?_
        exact ih (nc + 1) _ _ _ (by omega) (by omega) hI (lv_sub hl [1, 2, 3, 4, 0] rfl)
      have hk : k < 32 := hk
      rcases (show k = 0 ∨ k = 1 ∨ k = 2 ∨ k = 3 ∨ k = 4 ∨ k = 5 ∨ k = 6 ∨ k = 7 ∨ k = 8 ∨ k = 9 ∨ k = 10 ∨ k = 11 ∨ k = 12 ∨ k = 13 ∨ k = 14 ∨ k = 15 ∨ k = 16 ∨ k = 17 ∨ k = 18 ∨ k = 19 ∨ k = 20 ∨ 21 ≤ k by omega) with rfl | rfl | rfl | rfl | rfl | rfl | rfl | rfl | rfl | rfl | rfl | rfl | rfl | rfl | rfl | rfl | rfl | rfl | rfl | rfl | rfl | hk
      · refine lv_tableIn (tgt := 136) hx hb dL_law_39 (by decide) (by decide) rfl (by decide) ?_
        exact lc_cast l Z hfl hx hb hC hX hsc hbl hbA hLL o0 o1 o2 o3 o4 o5 o6 o7 o8 x st sb pa sp spb se sl sk ou (nc := nc) (ii := 4 * nc) (by omega) hii hI hl (by omega) (by omega) K
      · refine lv_tableIn (tgt := 204) hx hb dL_law_39 (by decide) (by decide) rfl (by decide) ?_
        exact lc_melt l Z hfl hx hb hC hX hsc hbl hbA hLL o0 o1 o2 o3 o4 o5 o6 o7 o8 x st sb pa sp spb se sl sk ou (nc := nc) (ii := 4 * nc) (by omega) hii hI hl (by omega) (by omega) K
      · refine lv_tableIn (tgt := 260) hx hb dL_law_39 (by decide) (by decide) rfl (by decide) ?_
        exact lc_buy l Z hfl hx hb hC hX hsc hbl hbA hLL o0 o1 o2 o3 o4 o5 o6 o7 o8 x st sb pa sp spb se sl sk ou (nc := nc) (ii := 4 * nc) (by omega) hii hI hl (by omega) (by omega) K
      · refine lv_tableIn (tgt := 316) hx hb dL_law_39 (by decide) (by decide) rfl (by decide) ?_
        exact lc_come l Z hfl hx hb hC hX hsc hbl hbA hLL o0 o1 o2 o3 o4 o5 o6 o7 o8 x st sb pa sp spb se sl sk ou (nc := nc) (ii := 4 * nc) (by omega) hii hI hl (by omega) (by omega) K
      · refine lv_tableIn (tgt := 372) hx hb dL_law_39 (by decide) (by decide) rfl (by decide) ?_
        exact lc_rent l Z hfl hx hb hC hX hsc hbl hbA hLL o0 o1 o2 o3 o4 o5 o6 o7 o8 x st sb pa sp spb se sl sk ou (nc := nc) (ii := 4 * nc) (by omega) hii hI hl (by omega) (by omega) K
      · refine lv_tableIn (tgt := 452) hx hb dL_law_39 (by decide) (by decide) rfl (by decide) ?_
        exact lc_giveBack l Z hfl hx hb hC hX hsc hbl hbA hLL o0 o1 o2 o3 o4 o5 o6 o7 o8 x st sb pa sp spb se sl sk ou (nc := nc) (ii := 4 * nc) (by omega) hii hI hl (by omega) (by omega) K
      · refine lv_tableIn (tgt := 532) hx hb dL_law_39 (by decide) (by decide) rfl (by decide) ?_
        exact lc_pay l Z hfl hx hb hC hX hsc hbl hbA hLL o0 o1 o2 o3 o4 o5 o6 o7 o8 x st sb pa sp spb se sl sk ou (nc := nc) (ii := 4 * nc) (by omega) hii hI hl (by omega) (by omega) K
      · refine lv_tableIn (tgt := 588) hx hb dL_law_39 (by decide) (by decide) rfl (by decide) ?_
        exact lc_set l Z hfl hx hb hC hX hsc hbl hbA hLL o0 o1 o2 o3 o4 o5 o6 o7 o8 x st sb pa sp spb se sl sk ou (nc := nc) (ii := 4 * nc) (by omega) hii hI hl (by omega) (by omega) K
      · refine lv_tableIn (tgt := 656) hx hb dL_law_39 (by decide) (by decide) rfl (by decide) ?_
        exact lc_print l Z hfl hx hb hC hX hsc hbl hbA hLL o0 o1 o2 o3 o4 o5 o6 o7 o8 x st sb pa sp spb se sl sk ou (nc := nc) (ii := 4 * nc) (by omega) hii hI hl (by omega) (by omega) K
      · refine lv_tableIn (tgt := 724) hx hb dL_law_39 (by decide) (by decide) rfl (by decide) ?_
        exact lc_distribute l Z hfl hx hb hC hX hsc hbl hbA hLL o0 o1 o2 o3 o4 o5 o6 o7 o8 x st sb pa sp spb se sl sk ou (nc := nc) (ii := 4 * nc) (by omega) hii hI hl (by omega) (by omega) K
      · refine lv_tableIn (tgt := 780) hx hb dL_law_39 (by decide) (by decide) rfl (by decide) ?_
        exact lc_pass l Z hfl hx hb hC hX hsc hbl hbA hLL o0 o1 o2 o3 o4 o5 o6 o7 o8 x st sb pa sp spb se sl sk ou (nc := nc) (ii := 4 * nc) (by omega) hii hI hl (by omega) (by omega) K
      · refine lv_tableIn (tgt := 836) hx hb dL_law_39 (by decide) (by decide) rfl (by decide) ?_
        exact lc_sorts l Z hfl hx hb hC hX hsc hbl hbA hLL o0 o1 o2 o3 o4 o5 o6 o7 o8 x st sb pa sp spb se sl sk ou (nc := nc) (ii := 4 * nc) (by omega) hii hI hl (by omega) (by omega) K
      · refine lv_tableIn (tgt := 916) hx hb dL_law_39 (by decide) (by decide) rfl (by decide) ?_
        exact lc_printer l Z hfl hx hb hC hX hsc hbl hbA hLL o0 o1 o2 o3 o4 o5 o6 o7 o8 x st sb pa sp spb se sl sk ou (nc := nc) (ii := 4 * nc) (by omega) hii hI hl (by omega) (by omega) K
      · refine lv_tableIn (tgt := 984) hx hb dL_law_39 (by decide) (by decide) rfl (by decide) ?_
        exact lc_count l Z hfl hx hb hC hX hsc hbl hbA hLL o0 o1 o2 o3 o4 o5 o6 o7 o8 x st sb pa sp spb se sl sk ou (nc := nc) (ii := 4 * nc) (by omega) hii hI hl (by omega) (by omega) K
      · refine lv_tableIn (tgt := 1040) hx hb dL_law_39 (by decide) (by decide) rfl (by decide) ?_
        exact lc_takes l Z hfl hx hb hC hX hsc hbl hbA hLL o0 o1 o2 o3 o4 o5 o6 o7 o8 x st sb pa sp spb se sl sk ou (nc := nc) (ii := 4 * nc) (by omega) hii hI hl (by omega) (by omega) K
      · refine lv_tableIn (tgt := 1108) hx hb dL_law_39 (by decide) (by decide) rfl (by decide) ?_
        exact lc_lacks l Z hfl hx hb hC hX hsc hbl hbA hLL o0 o1 o2 o3 o4 o5 o6 o7 o8 x st sb pa sp spb se sl sk ou (nc := nc) (ii := 4 * nc) (by omega) hii hI hl (by omega) (by omega) K
      · refine lv_tableIn (tgt := 1176) hx hb dL_law_39 (by decide) (by decide) rfl (by decide) ?_
        exact lc_bears l Z hfl hx hb hC hX hsc hbl hbA hLL o0 o1 o2 o3 o4 o5 o6 o7 o8 x st sb pa sp spb se sl sk ou (nc := nc) (ii := 4 * nc) (by omega) hii hI hl (by omega) (by omega) K
      · refine lv_tableIn (tgt := 1232) hx hb dL_law_39 (by decide) (by decide) rfl (by decide) ?_
        exact lc_saves l Z hfl hx hb hC hX hsc hbl hbA hLL o0 o1 o2 o3 o4 o5 o6 o7 o8 x st sb pa sp spb se sl sk ou (nc := nc) (ii := 4 * nc) (by omega) hii hI hl (by omega) (by omega) K
      · refine lv_tableIn (tgt := 1300) hx hb dL_law_39 (by decide) (by decide) rfl (by decide) ?_
        exact lc_times l Z hfl hx hb hC hX hsc hbl hbA hLL o0 o1 o2 o3 o4 o5 o6 o7 o8 x st sb pa sp spb se sl sk ou (nc := nc) (ii := 4 * nc) (by omega) hii hI hl (by omega) (by omega) K
      · refine lv_tableIn (tgt := 1368) hx hb dL_law_39 (by decide) (by decide) rfl (by decide) ?_
        exact lc_mean l Z hfl hx hb hC hX hsc hbl hbA hLL o0 o1 o2 o3 o4 o5 o6 o7 o8 x st sb pa sp spb se sl sk ou (nc := nc) (ii := 4 * nc) (by omega) hii hI hl (by omega) (by omega) K
      · refine lv_tableIn (tgt := 1409) hx hb dL_law_39 (by decide) (by decide) rfl (by decide) ?_
        exact lc_digest l Z hfl hx hb hC hX hsc hbl hbA hLL o0 o1 o2 o3 o4 o5 o6 o7 o8 x st sb pa sp spb se sl sk ou (nc := nc) (ii := 4 * nc) (by omega) hii hI hl (by omega) (by omega) K
      · refine lv_tableOut (tgt := 1423) hx hb dL_law_39 (Or.inr (by rw [nI_toInt (by omega)]; omega)) (by decide) ?_
        refine W.widen (k := 19 + 60 * nc + 60) (n := 4255 + 700 * nc + 700) (by omega) (by omega) ?_
        exact K _ _ _ (li_s hI) hl
