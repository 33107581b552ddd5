set_option maxHeartbeats 8000000 in
set_option maxRecDepth 100000 in
theorem lc_giveBack (l : Launch) (Z : zT) {p : Program} {e : Env} {s : State} {m : MethodId} {below : List Frame} {meth : Method} {c : Code} {A : Nat → Prop} {Q : State → Prop} {b LL : Nat} {xs : Nat → Int32} (hfl : l.stackTraces = false) (hx : p.tables.exec = Jvm.exec) (hb : c.code = code) (hC : CallFix p m c code 9 s #[.ref b] wsL_law RL) (hX : zX Z s A) (hsc : va_X b LL xs s s.heap) (hbl : b < s.heap.size) (hbA : ¬ A b) (hLL : LL ≤ 2048) (o0 o1 o2 o3 o4 o5 o6 o7 o8 x st sb pa sp spb se sl sk ou : Nat) {nc ii cells slots : Nat} {H : Heap} {locs : List Loc} {ls : Array Slot} (hnc : nc < 512) (hii : ii + 4 ≤ LL) (hI : LI Z s A nc o0 o1 o2 o3 o4 o5 o6 o7 o8 x st sb pa sp spb se sl sk ou H locs) (hl : lv_has ls 9 [(0, .ref b), (1, .ref x), (2, .ref o0), (3, .ref ou), (4, .int (nI ii))]) (hr1 : cells + 60 ≤ 601024) (hr2 : slots + 700 ≤ 7293034) (K : ∀ (H : Heap) (locs : List Loc) (ls : Array Slot), LI Z s A (nc + 1) o0 o1 o2 o3 o4 o5 o6 o7 o8 x st sb pa sp spb se sl sk ou H locs → lv_has ls 9 [(0, .ref b), (1, .ref x), (2, .ref o0), (3, .ref ou), (4, .int (nI ii))] → W p l e room_1 s m #[.ref b] below meth c H locs (cells + 60) (slots + 700) Q (F0 m 1423 ls [])) : W p l e room_1 s m #[.ref b] below meth c H locs cells slots Q (F0 m 452 ls []) := by
  have hml := hC.2.2.1
  have hown : s.vm.findClass RL = some m.cls := hC.2.2.2.1
  have hts := hC.2.2.2.2
  obtain ⟨th, dy, me, co, ca, br, ml, le, fp, np, S, E, Tk, Lf, L, lf, tk, F, G, pn, ad, ov, hnp, hGI, hW⟩ := hI
  have hW : zW Z s A ((o0, .inr (5, [.int th, .int dy, .int me, .int co, .int (nI np), .int ca, .int br, .int ml, .ref o1, .ref o2, .ref o3, .ref o4, .ref o5, .ref o6, .int le, .ref o7, .ref o8])) :: (o1, zI Z 3770 (stF S F G)) :: (o2, zI Z 6 (qF pn 0)) :: (o3, zI Z 6 (qF pn 1)) :: (o4, zI Z 6 (qF pn 2)) :: (o5, zI Z 6 (qF pn 3)) :: (o6, zI Z 6 E) :: (o7, zI Z 29 Tk) :: (o8, zI Z 29 Lf) :: (ou, zL Z 1 ov) :: (x, .inr (4, [.ref st, .ref pa, .int (nI np), .int dy, .int me, .int co, .int ca, .int br, .int ml, .ref sp, .ref se])) :: (st, .inr (2, [.ref sb])) :: (sb, zI Z 290 S) :: (pa, zQ Z 6 (pav ad np)) :: (sp, .inr (3, [.ref spb, .int fp])) :: (spb, zI Z 6 L) :: (se, .inr (1, [.ref sl, .ref sk])) :: (sl, zI Z 29 lf) :: (sk, zI Z 29 tk) :: zpool np (pcs Z ad F G pn)) _ _ := hW
  refine lv_aload_n hx hb dL_law_452 rfl (lv_at hl 1 rfl) ?_
  refine lv_aload_n hx hb dL_law_453 rfl (lv_at hl 0 rfl) ?_
  refine lv_iload hx hb dL_law_454 (lv_at hl 4 rfl) ?_
  refine lv_iconst (v := nI 1) hx hb dL_law_456 (by decide) ?_
  refine lv_iadd hx hb dL_law_457 ?_
  refine zw_topi (nI_add _ _) ?_
  refine z_sld hx hb hsc hbl hbA hLL hW (k := (ii + 1)) (by omega) dL_law_458 ?_
  refine lv_aload_n hx hb dL_law_459 rfl (lv_at hl 0 rfl) ?_
  refine lv_iload hx hb dL_law_460 (lv_at hl 4 rfl) ?_
  refine lv_iconst (v := nI 2) hx hb dL_law_462 (by decide) ?_
  refine lv_iadd hx hb dL_law_463 ?_
  refine zw_topi (nI_add _ _) ?_
  refine z_sld hx hb hsc hbl hbA hLL hW (k := (ii + 2)) (by omega) dL_law_464 ?_
  refine lv_aload_n hx hb dL_law_465 rfl (lv_at hl 0 rfl) ?_
  refine lv_iload hx hb dL_law_466 (lv_at hl 4 rfl) ?_
  refine lv_iconst (v := nI 3) hx hb dL_law_468 (by decide) ?_
  refine lv_iadd hx hb dL_law_469 ?_
  refine zw_topi (nI_add _ _) ?_
  refine z_sld hx hb hsc hbl hbA hLL hW (k := (ii + 3)) (by omega) dL_law_470 ?_
  refine lv_aload_n hx hb dL_law_471 rfl (lv_at hl 3 rfl) ?_
  refine zcA_i (wr := [(o0, .inr (5, [.int th, .int dy, .int me, .int co, .int (nI np), .int ca, .int br, .int ml, .ref o1, .ref o2, .ref o3, .ref o4, .ref o5, .ref o6, .int le, .ref o7, .ref o8])), (o1, zI Z 3770 (stF S F G)), (o2, zI Z 6 (qF pn 0)), (o3, zI Z 6 (qF pn 1)), (o4, zI Z 6 (qF pn 2)), (o5, zI Z 6 (qF pn 3)), (o6, zI Z 6 E), (o7, zI Z 29 Tk), (o8, zI Z 29 Lf)]) (vx_runSW (As := [.ref x, .int (xs (ii + 1)), .int (xs (ii + 2)), .int (xs (ii + 3)), .ref ou]) (rest := []) hC (c_L_giveBack l Z x st sb pa sp spb se sl sk np S dy me co ca br ml fp L lf tk ad F G pn (xs (ii + 1)) (xs (ii + 2)) (xs (ii + 3)) ou ov hfl hnp _) (vx_cwSW 5 hts gL_law_L_giveBack rfl rfl rfl (by decide +kernel) ⟨Nat.le_of_ble_eq_true rfl, Nat.le_of_ble_eq_true rfl⟩) (zpreSA (wr := [(o0, .inr (5, [.int th, .int dy, .int me, .int co, .int (nI np), .int ca, .int br, .int ml, .ref o1, .ref o2, .ref o3, .ref o4, .ref o5, .ref o6, .int le, .ref o7, .ref o8])), (o1, zI Z 3770 (stF S F G)), (o2, zI Z 6 (qF pn 0)), (o3, zI Z 6 (qF pn 1)), (o4, zI Z 6 (qF pn 2)), (o5, zI Z 6 (qF pn 3)), (o6, zI Z 6 E), (o7, zI Z 29 Tk), (o8, zI Z 29 Lf)]) hX hW) rfl rfl hl.1 rfl (lv_room (Nat.le_of_ble_eq_true rfl)) dL_law_472 ⟨by first | (show (_ : Nat) ≤ 601024; omega) | (show (_ : Nat) ≤ 7293034; omega), by first | (show (_ : Nat) ≤ 601024; omega) | (show (_ : Nat) ≤ 7293034; omega)⟩) hX hW (fun r u9 H locs h9 hW => ?_)
  obtain ⟨ov1, w9⟩ := u9
  rcases h9 with ⟨hr9, hz, hov, u4, hw9⟩ | ⟨k9, hk1, hk2, hr9, u4, hw9⟩
  · have hw9 : w9 = _ := hw9
    subst hw9
    subst hr9
    have hW : zW Z s A ((o0, .inr (5, [.int th, .int dy, .int me, .int co, .int (nI np), .int ca, .int br, .int ml, .ref o1, .ref o2, .ref o3, .ref o4, .ref o5, .ref o6, .int le, .ref o7, .ref o8])) :: (o1, zI Z 3770 (stF S F G)) :: (o2, zI Z 6 (qF pn 0)) :: (o3, zI Z 6 (qF pn 1)) :: (o4, zI Z 6 (qF pn 2)) :: (o5, zI Z 6 (qF pn 3)) :: (o6, zI Z 6 E) :: (o7, zI Z 29 Tk) :: (o8, zI Z 29 Lf) :: (ou, zL Z 1 ov1) :: (x, .inr (4, [.ref st, .ref pa, .int (nI np), .int dy, .int me, .int co, .int ca, .int br, .int ml, .ref sp, .ref se])) :: (st, .inr (2, [.ref sb])) :: (sb, zI Z 290 ((mvS oD (sn (xs (ii + 2))) (xs (ii + 3)) (F (sn (xs (ii + 1)))) S 10).2.2.2)) :: (pa, zQ Z 6 (pav ad np)) :: (sp, .inr (3, [.ref spb, .int fp])) :: (spb, zI Z 6 L) :: (se, .inr (1, [.ref sl, .ref sk])) :: (sl, zI Z 29 lf) :: (sk, zI Z 29 tk) :: zpool np (pcs Z ad (up F (sn (xs (ii + 1))) ((mvS oD (sn (xs (ii + 2))) (xs (ii + 3)) (F (sn (xs (ii + 1)))) S 10).2.2.1)) (up G (sn (xs (ii + 1))) (G (sn (xs (ii + 1))))) (up pn (sn (xs (ii + 1))) (q4 (pn (sn (xs (ii + 1))) 0) (pn (sn (xs (ii + 1))) 1) (pn (sn (xs (ii + 1))) 2) (pn (sn (xs (ii + 1))) 3))))) _ _ := hW
    refine lv_istore (lv' := [(5, .int (nI 0)), (0, .ref b), (1, .ref x), (2, .ref o0), (3, .ref ou), (4, .int (nI ii))]) hx hb dL_law_475 hl (by decide) rfl (fun ls hl => ?_)
    refine lv_aload_n hx hb dL_law_477 rfl (lv_at hl 3 rfl) ?_
    refine lv_aload_n hx hb dL_law_478 rfl (lv_at hl 1 rfl) ?_
    refine lv_iload hx hb dL_law_479 (lv_at hl 5 rfl) ?_
    refine lv_iconst (v := nI 1) hx hb dL_law_481 (by decide) ?_
    refine lv_iadd hx hb dL_law_482 ?_
    refine zw_topi (nI_add _ _) ?_
    refine z_sld hx hb hsc hbl hbA hLL hW (k := (ii + 1)) (by omega) dL_law_483 ?_
    refine lv_aload_n hx hb dL_law_484 rfl (lv_at hl 1 rfl) ?_
    refine lv_iload hx hb dL_law_485 (lv_at hl 5 rfl) ?_
    refine lv_iconst (v := nI 2) hx hb dL_law_487 (by decide) ?_
    refine lv_iadd hx hb dL_law_488 ?_
    refine zw_topi (nI_add _ _) ?_
    refine z_sld hx hb hsc hbl hbA hLL hW (k := (ii + 2)) (by omega) dL_law_489 ?_
    refine lv_aload_n hx hb dL_law_490 rfl (lv_at hl 1 rfl) ?_
    refine lv_iload hx hb dL_law_491 (lv_at hl 5 rfl) ?_
    refine lv_iconst (v := nI 3) hx hb dL_law_493 (by decide) ?_
    refine lv_iadd hx hb dL_law_494 ?_
    refine zw_topi (nI_add _ _) ?_
    refine z_sld hx hb hsc hbl hbA hLL hW (k := (ii + 3)) (by omega) dL_law_495 ?_
    refine zc_i (va_runV (As := [.int (xs (ii + 1)), .int (xs (ii + 2)), .int (xs (ii + 3))]) (rest := []) hC (c_X5_giveBack l Z o0 o1 o2 o3 o4 o5 o6 o7 o8 np th dy me co ca br ml le S E Tk Lf F G pn (xs (ii + 1)) (xs (ii + 2)) (xs (ii + 3)) (gi_GA hGI (by omega)) hnp _) (cwV 3 hts gL_law_X5_giveBack rfl rfl rfl (by decide +kernel) ⟨Nat.le_of_ble_eq_true rfl, Nat.le_of_ble_eq_true rfl⟩) (zpreV (ci := 5) (q0 := 0) hX hW rfl rfl [0, 1, 2, 3, 4, 5, 6, 7, 8] rfl (by decide)) rfl rfl hl.1 rfl (lv_room (Nat.le_of_ble_eq_true rfl)) dL_law_496 ⟨by first | (show (_ : Nat) ≤ 601024; omega) | (show (_ : Nat) ≤ 7293034; omega), by first | (show (_ : Nat) ≤ 601024; omega) | (show (_ : Nat) ≤ 7293034; omega)⟩) hX hW [0, 1, 2, 3, 4, 5, 6, 7, 8] rfl (by decide) (fun _ => rfl) (fun r_496 u_496 H locs h_496 hW => ?_)
    obtain ⟨th_1_496, f_1_496⟩ := u_496
    have hW : zW Z s A ((o0, .inr (5, [.int th_1_496, .int dy, .int me, .int co, .int (nI np), .int ca, .int br, .int ml, .ref o1, .ref o2, .ref o3, .ref o4, .ref o5, .ref o6, .int le, .ref o7, .ref o8])) :: (o1, zI Z 3770 f_1_496) :: (o2, zI Z 6 (qF pn 0)) :: (o3, zI Z 6 (qF pn 1)) :: (o4, zI Z 6 (qF pn 2)) :: (o5, zI Z 6 (qF pn 3)) :: (o6, zI Z 6 E) :: (o7, zI Z 29 Tk) :: (o8, zI Z 29 Lf) :: (ou, zL Z 1 ov1) :: (x, .inr (4, [.ref st, .ref pa, .int (nI np), .int dy, .int me, .int co, .int ca, .int br, .int ml, .ref sp, .ref se])) :: (st, .inr (2, [.ref sb])) :: (sb, zI Z 290 ((mvS oD (sn (xs (ii + 2))) (xs (ii + 3)) (F (sn (xs (ii + 1)))) S 10).2.2.2)) :: (pa, zQ Z 6 (pav ad np)) :: (sp, .inr (3, [.ref spb, .int fp])) :: (spb, zI Z 6 L) :: (se, .inr (1, [.ref sl, .ref sk])) :: (sl, zI Z 29 lf) :: (sk, zI Z 29 tk) :: zpool np (pcs Z ad (up F (sn (xs (ii + 1))) ((mvS oD (sn (xs (ii + 2))) (xs (ii + 3)) (F (sn (xs (ii + 1)))) S 10).2.2.1)) (up G (sn (xs (ii + 1))) (G (sn (xs (ii + 1))))) (up pn (sn (xs (ii + 1))) (q4 (pn (sn (xs (ii + 1))) 0) (pn (sn (xs (ii + 1))) 1) (pn (sn (xs (ii + 1))) 2) (pn (sn (xs (ii + 1))) 3))))) _ _ := hW
    rcases h_496 with ⟨e_th, hz2, hr2, e_f⟩ | ⟨k8, hj1, hj2, e_th, e_f⟩
    rotate_left
    · exact absurd hz (by omega)
    replace e_th := e_th.symm
    subst e_th
    replace e_f := e_f.symm
    subst e_f
    have hov : ov1 0 = ((mvS oD (sn (xs (ii + 2))) (xs (ii + 3)) (F (sn (xs (ii + 1)))) S 10).2.1).toInt64 := hov
    generalize ((mvS oD (sn (xs (ii + 2))) (xs (ii + 3)) (F (sn (xs (ii + 1)))) S 10).2.1) = R9 at hov hr2
    replace hr2 := hr2.symm
    subst hr2
    have hW : zW Z s A ((o0, .inr (5, [.int (nI 0), .int dy, .int me, .int co, .int (nI np), .int ca, .int br, .int ml, .ref o1, .ref o2, .ref o3, .ref o4, .ref o5, .ref o6, .int le, .ref o7, .ref o8])) :: (o1, zI Z 3770 (stF (mvS oD (sn (xs (ii + 2))) (xs (ii + 3)) (F (sn (xs (ii + 1)))) S 10).2.2.2 (up F (sn (xs (ii + 1))) (mvS oD (sn (xs (ii + 2))) (xs (ii + 3)) (F (sn (xs (ii + 1)))) S 10).2.2.1) G)) :: (o2, zI Z 6 (qF pn 0)) :: (o3, zI Z 6 (qF pn 1)) :: (o4, zI Z 6 (qF pn 2)) :: (o5, zI Z 6 (qF pn 3)) :: (o6, zI Z 6 E) :: (o7, zI Z 29 Tk) :: (o8, zI Z 29 Lf) :: (ou, zL Z 1 ov1) :: (x, .inr (4, [.ref st, .ref pa, .int (nI np), .int dy, .int me, .int co, .int ca, .int br, .int ml, .ref sp, .ref se])) :: (st, .inr (2, [.ref sb])) :: (sb, zI Z 290 ((mvS oD (sn (xs (ii + 2))) (xs (ii + 3)) (F (sn (xs (ii + 1)))) S 10).2.2.2)) :: (pa, zQ Z 6 (pav ad np)) :: (sp, .inr (3, [.ref spb, .int fp])) :: (spb, zI Z 6 L) :: (se, .inr (1, [.ref sl, .ref sk])) :: (sl, zI Z 29 lf) :: (sk, zI Z 29 tk) :: zpool np (pcs Z ad (up F (sn (xs (ii + 1))) ((mvS oD (sn (xs (ii + 2))) (xs (ii + 3)) (F (sn (xs (ii + 1)))) S 10).2.2.1)) (up G (sn (xs (ii + 1))) (G (sn (xs (ii + 1))))) (up pn (sn (xs (ii + 1))) (q4 (pn (sn (xs (ii + 1))) 0) (pn (sn (xs (ii + 1))) 1) (pn (sn (xs (ii + 1))) 2) (pn (sn (xs (ii + 1))) 3))))) _ _ := hW
    refine lv_istore (lv' := [(6, .int R9), (5, .int (nI 0)), (0, .ref b), (1, .ref x), (2, .ref o0), (3, .ref ou), (4, .int (nI ii))]) hx hb dL_law_499 hl (by decide) rfl (fun ls hl => ?_)
    refine lv_aload_n hx hb dL_law_501 rfl (lv_at hl 4 rfl) ?_
    refine zc_i (va_runV (As := []) (rest := []) hC (c_X5_thrown l Z o0 o1 o2 o3 o4 o5 o6 o7 o8 np (nI 0) dy me co ca br ml le  _) (cwV 0 hts gL_law_X5_thrown rfl rfl rfl (by decide +kernel) ⟨Nat.le_of_ble_eq_true rfl, Nat.le_of_ble_eq_true rfl⟩) (zpreV (ci := 5) (q0 := 0) hX hW rfl rfl [0] rfl (by decide)) rfl rfl hl.1 rfl (lv_room (Nat.le_of_ble_eq_true rfl)) dL_law_502 ⟨by first | (show (_ : Nat) ≤ 601024; omega) | (show (_ : Nat) ≤ 7293034; omega), by first | (show (_ : Nat) ≤ 601024; omega) | (show (_ : Nat) ≤ 7293034; omega)⟩) hX hW [0] rfl (by decide) (fun _ => rfl) (fun r_502 u_502 H locs h_502 hW => ?_)
    have hW : zW Z s A ((o0, .inr (5, [.int (nI 0), .int dy, .int me, .int co, .int (nI np), .int ca, .int br, .int ml, .ref o1, .ref o2, .ref o3, .ref o4, .ref o5, .ref o6, .int le, .ref o7, .ref o8])) :: (o1, zI Z 3770 (stF (mvS oD (sn (xs (ii + 2))) (xs (ii + 3)) (F (sn (xs (ii + 1)))) S 10).2.2.2 (up F (sn (xs (ii + 1))) (mvS oD (sn (xs (ii + 2))) (xs (ii + 3)) (F (sn (xs (ii + 1)))) S 10).2.2.1) G)) :: (o2, zI Z 6 (qF pn 0)) :: (o3, zI Z 6 (qF pn 1)) :: (o4, zI Z 6 (qF pn 2)) :: (o5, zI Z 6 (qF pn 3)) :: (o6, zI Z 6 E) :: (o7, zI Z 29 Tk) :: (o8, zI Z 29 Lf) :: (ou, zL Z 1 ov1) :: (x, .inr (4, [.ref st, .ref pa, .int (nI np), .int dy, .int me, .int co, .int ca, .int br, .int ml, .ref sp, .ref se])) :: (st, .inr (2, [.ref sb])) :: (sb, zI Z 290 ((mvS oD (sn (xs (ii + 2))) (xs (ii + 3)) (F (sn (xs (ii + 1)))) S 10).2.2.2)) :: (pa, zQ Z 6 (pav ad np)) :: (sp, .inr (3, [.ref spb, .int fp])) :: (spb, zI Z 6 L) :: (se, .inr (1, [.ref sl, .ref sk])) :: (sl, zI Z 29 lf) :: (sk, zI Z 29 tk) :: zpool np (pcs Z ad (up F (sn (xs (ii + 1))) ((mvS oD (sn (xs (ii + 2))) (xs (ii + 3)) (F (sn (xs (ii + 1)))) S 10).2.2.1)) (up G (sn (xs (ii + 1))) (G (sn (xs (ii + 1))))) (up pn (sn (xs (ii + 1))) (q4 (pn (sn (xs (ii + 1))) 0) (pn (sn (xs (ii + 1))) 1) (pn (sn (xs (ii + 1))) 2) (pn (sn (xs (ii + 1))) 3))))) _ _ := hW
    subst h_502
    refine zw_topi (y := (nI 0)) (rfl) ?_
    refine lv_iload hx hb dL_law_505 (lv_at hl 1 rfl) ?_
    refine zn_icmp_eq (tgt := 512) (a := 0) (b := 0) hx hb (by omega) (by omega) dL_law_507 (by decide) (fun c_507 => ?_) (fun c_507 => absurd rfl c_507)
    refine lv_iload hx hb dL_law_512 (lv_at hl 1 rfl) ?_
    refine zn_if_ne (tgt := 529) (a := 0) hx hb (by omega) dL_law_514 (by decide) (fun c_514 => absurd c_514 (by omega)) (fun c_514 => ?_)
    refine lv_aload_n hx hb dL_law_517 rfl (lv_at hl 5 rfl) ?_
    refine lv_iconst (v := nI 0) hx hb dL_law_518 (by decide) ?_
    refine z_lald hx hb hX hW 9 rfl (k := 0) (by omega) (by omega) dL_law_519 ?_
    refine zw_topl (y := R9.toInt64) (hov) ?_
    refine lv_iload hx hb dL_law_520 (lv_at hl 0 rfl) ?_
    refine lv_i2l (v := R9.toInt64) hx hb dL_law_522 rfl ?_
    refine W.lcmp hx hb dL_law_523 ?_
    refine zw_topi (y := (nI 0)) (lg_self _) ?_
    refine zn_if_eq (tgt := 529) (a := 0) hx hb (by omega) dL_law_524 (by decide) (fun c_524 => ?_) (fun c_524 => absurd rfl c_524)
    refine lv_goto (tgt := 1423) hx hb dL_law_529 (by decide) ?_
    have e91 : (stF (mvS oD (sn (xs (ii + 2))) (xs (ii + 3)) (F (sn (xs (ii + 1)))) S 10).2.2.2 (up F (sn (xs (ii + 1))) (mvS oD (sn (xs (ii + 2))) (xs (ii + 3)) (F (sn (xs (ii + 1)))) S 10).2.2.1) G) = stF ((mvS oD (sn (xs (ii + 2))) (xs (ii + 3)) (F (sn (xs (ii + 1)))) S 10).2.2.2) (up F (sn (xs (ii + 1))) ((mvS oD (sn (xs (ii + 2))) (xs (ii + 3)) (F (sn (xs (ii + 1)))) S 10).2.2.1)) (up G (sn (xs (ii + 1))) (G (sn (xs (ii + 1))))) := by rw [up_self]
    rw [e91] at hW
    have e92 : qF pn 0 = qF (up pn (sn (xs (ii + 1))) (q4 (pn (sn (xs (ii + 1))) 0) (pn (sn (xs (ii + 1))) 1) (pn (sn (xs (ii + 1))) 2) (pn (sn (xs (ii + 1))) 3))) 0 := qs_0 rfl
    rw [e92] at hW
    have e93 : qF pn 1 = qF (up pn (sn (xs (ii + 1))) (q4 (pn (sn (xs (ii + 1))) 0) (pn (sn (xs (ii + 1))) 1) (pn (sn (xs (ii + 1))) 2) (pn (sn (xs (ii + 1))) 3))) 1 := qs_1 rfl
    rw [e93] at hW
    have e94 : qF pn 2 = qF (up pn (sn (xs (ii + 1))) (q4 (pn (sn (xs (ii + 1))) 0) (pn (sn (xs (ii + 1))) 1) (pn (sn (xs (ii + 1))) 2) (pn (sn (xs (ii + 1))) 3))) 2 := qs_2 rfl
    rw [e94] at hW
    have e95 : qF pn 3 = qF (up pn (sn (xs (ii + 1))) (q4 (pn (sn (xs (ii + 1))) 0) (pn (sn (xs (ii + 1))) 1) (pn (sn (xs (ii + 1))) 2) (pn (sn (xs (ii + 1))) 3))) 3 := qs_3 rfl
    rw [e95] at hW
    refine W.widen (k := cells + 60) (n := slots + 700) (by omega) (by omega) ?_
    exact K _ _ _ ⟨(nI 0), dy, me, co, ca, br, ml, le, fp, np, (mvS oD (sn (xs (ii + 2))) (xs (ii + 3)) (F (sn (xs (ii + 1)))) S 10).2.2.2, E, Tk, Lf, L, lf, tk, (up F (sn (xs (ii + 1))) ((mvS oD (sn (xs (ii + 2))) (xs (ii + 3)) (F (sn (xs (ii + 1)))) S 10).2.2.1)), (up G (sn (xs (ii + 1))) (G (sn (xs (ii + 1))))), (up pn (sn (xs (ii + 1))) (q4 (pn (sn (xs (ii + 1))) 0) (pn (sn (xs (ii + 1))) 1) (pn (sn (xs (ii + 1))) 2) (pn (sn (xs (ii + 1))) 3))), ad, ov1, hnp, gi_give hGI (by omega) hnp hz, hW⟩ (lv_sub hl [2, 3, 4, 5, 6] rfl)
  · have hw9 : w9 = _ := hw9
    subst hw9
    subst hr9
    have hk3 : k9 ≤ 3 := by rw [hk2]; exact cdx_le _ _ _
    have hW : zW Z s A ((o0, .inr (5, [.int th, .int dy, .int me, .int co, .int (nI np), .int ca, .int br, .int ml, .ref o1, .ref o2, .ref o3, .ref o4, .ref o5, .ref o6, .int le, .ref o7, .ref o8])) :: (o1, zI Z 3770 (stF S F G)) :: (o2, zI Z 6 (qF pn 0)) :: (o3, zI Z 6 (qF pn 1)) :: (o4, zI Z 6 (qF pn 2)) :: (o5, zI Z 6 (qF pn 3)) :: (o6, zI Z 6 E) :: (o7, zI Z 29 Tk) :: (o8, zI Z 29 Lf) :: (ou, zL Z 1 ov1) :: (x, .inr (4, [.ref st, .ref pa, .int (nI np), .int dy, .int me, .int co, .int ca, .int br, .int ml, .ref sp, .ref se])) :: (st, .inr (2, [.ref sb])) :: (sb, zI Z 290 S) :: (pa, zQ Z 6 (pav ad np)) :: (sp, .inr (3, [.ref spb, .int fp])) :: (spb, zI Z 6 L) :: (se, .inr (1, [.ref sl, .ref sk])) :: (sl, zI Z 29 lf) :: (sk, zI Z 29 tk) :: zpool np (pcs Z ad F G pn)) _ _ := hW
    refine lv_istore (lv' := [(5, .int (nI k9)), (0, .ref b), (1, .ref x), (2, .ref o0), (3, .ref ou), (4, .int (nI ii))]) hx hb dL_law_475 hl (by decide) rfl (fun ls hl => ?_)
    refine lv_aload_n hx hb dL_law_477 rfl (lv_at hl 3 rfl) ?_
    refine lv_aload_n hx hb dL_law_478 rfl (lv_at hl 1 rfl) ?_
    refine lv_iload hx hb dL_law_479 (lv_at hl 5 rfl) ?_
    refine lv_iconst (v := nI 1) hx hb dL_law_481 (by decide) ?_
    refine lv_iadd hx hb dL_law_482 ?_
    refine zw_topi (nI_add _ _) ?_
    refine z_sld hx hb hsc hbl hbA hLL hW (k := (ii + 1)) (by omega) dL_law_483 ?_
    refine lv_aload_n hx hb dL_law_484 rfl (lv_at hl 1 rfl) ?_
    refine lv_iload hx hb dL_law_485 (lv_at hl 5 rfl) ?_
    refine lv_iconst (v := nI 2) hx hb dL_law_487 (by decide) ?_
    refine lv_iadd hx hb dL_law_488 ?_
    refine zw_topi (nI_add _ _) ?_
    refine z_sld hx hb hsc hbl hbA hLL hW (k := (ii + 2)) (by omega) dL_law_489 ?_
    refine lv_aload_n hx hb dL_law_490 rfl (lv_at hl 1 rfl) ?_
    refine lv_iload hx hb dL_law_491 (lv_at hl 5 rfl) ?_
    refine lv_iconst (v := nI 3) hx hb dL_law_493 (by decide) ?_
    refine lv_iadd hx hb dL_law_494 ?_
    refine zw_topi (nI_add _ _) ?_
    refine z_sld hx hb hsc hbl hbA hLL hW (k := (ii + 3)) (by omega) dL_law_495 ?_
    refine zc_i (va_runV (As := [.int (xs (ii + 1)), .int (xs (ii + 2)), .int (xs (ii + 3))]) (rest := []) hC (c_X5_giveBack l Z o0 o1 o2 o3 o4 o5 o6 o7 o8 np th dy me co ca br ml le S E Tk Lf F G pn (xs (ii + 1)) (xs (ii + 2)) (xs (ii + 3)) (gi_GA hGI (by omega)) hnp _) (cwV 3 hts gL_law_X5_giveBack rfl rfl rfl (by decide +kernel) ⟨Nat.le_of_ble_eq_true rfl, Nat.le_of_ble_eq_true rfl⟩) (zpreV (ci := 5) (q0 := 0) hX hW rfl rfl [0, 1, 2, 3, 4, 5, 6, 7, 8] rfl (by decide)) rfl rfl hl.1 rfl (lv_room (Nat.le_of_ble_eq_true rfl)) dL_law_496 ⟨by first | (show (_ : Nat) ≤ 601024; omega) | (show (_ : Nat) ≤ 7293034; omega), by first | (show (_ : Nat) ≤ 601024; omega) | (show (_ : Nat) ≤ 7293034; omega)⟩) hX hW [0, 1, 2, 3, 4, 5, 6, 7, 8] rfl (by decide) (fun _ => rfl) (fun r_496 u_496 H locs h_496 hW => ?_)
    obtain ⟨th_1_496, f_1_496⟩ := u_496
    have hW : zW Z s A ((o0, .inr (5, [.int th_1_496, .int dy, .int me, .int co, .int (nI np), .int ca, .int br, .int ml, .ref o1, .ref o2, .ref o3, .ref o4, .ref o5, .ref o6, .int le, .ref o7, .ref o8])) :: (o1, zI Z 3770 f_1_496) :: (o2, zI Z 6 (qF pn 0)) :: (o3, zI Z 6 (qF pn 1)) :: (o4, zI Z 6 (qF pn 2)) :: (o5, zI Z 6 (qF pn 3)) :: (o6, zI Z 6 E) :: (o7, zI Z 29 Tk) :: (o8, zI Z 29 Lf) :: (ou, zL Z 1 ov1) :: (x, .inr (4, [.ref st, .ref pa, .int (nI np), .int dy, .int me, .int co, .int ca, .int br, .int ml, .ref sp, .ref se])) :: (st, .inr (2, [.ref sb])) :: (sb, zI Z 290 S) :: (pa, zQ Z 6 (pav ad np)) :: (sp, .inr (3, [.ref spb, .int fp])) :: (spb, zI Z 6 L) :: (se, .inr (1, [.ref sl, .ref sk])) :: (sl, zI Z 29 lf) :: (sk, zI Z 29 tk) :: zpool np (pcs Z ad F G pn)) _ _ := hW
    rcases h_496 with ⟨e_th, hz2, hr2, e_f⟩ | ⟨k8, hj1, hj2, e_th, e_f⟩
    · exact absurd hz2 (by omega)
    obtain rfl : k8 = k9 := by omega
    replace e_th := e_th.symm
    subst e_th
    replace e_f := e_f.symm
    subst e_f
    have hW : zW Z s A ((o0, .inr (5, [.int (nI k8), .int dy, .int me, .int co, .int (nI np), .int ca, .int br, .int ml, .ref o1, .ref o2, .ref o3, .ref o4, .ref o5, .ref o6, .int le, .ref o7, .ref o8])) :: (o1, zI Z 3770 (stF S F G)) :: (o2, zI Z 6 (qF pn 0)) :: (o3, zI Z 6 (qF pn 1)) :: (o4, zI Z 6 (qF pn 2)) :: (o5, zI Z 6 (qF pn 3)) :: (o6, zI Z 6 E) :: (o7, zI Z 29 Tk) :: (o8, zI Z 29 Lf) :: (ou, zL Z 1 ov1) :: (x, .inr (4, [.ref st, .ref pa, .int (nI np), .int dy, .int me, .int co, .int ca, .int br, .int ml, .ref sp, .ref se])) :: (st, .inr (2, [.ref sb])) :: (sb, zI Z 290 S) :: (pa, zQ Z 6 (pav ad np)) :: (sp, .inr (3, [.ref spb, .int fp])) :: (spb, zI Z 6 L) :: (se, .inr (1, [.ref sl, .ref sk])) :: (sl, zI Z 29 lf) :: (sk, zI Z 29 tk) :: zpool np (pcs Z ad F G pn)) _ _ := hW
    refine lv_istore (lv' := [(6, .int r_496), (5, .int (nI k8)), (0, .ref b), (1, .ref x), (2, .ref o0), (3, .ref ou), (4, .int (nI ii))]) hx hb dL_law_499 hl (by decide) rfl (fun ls hl => ?_)
    refine lv_aload_n hx hb dL_law_501 rfl (lv_at hl 4 rfl) ?_
    refine zc_i (va_runV (As := []) (rest := []) hC (c_X5_thrown l Z o0 o1 o2 o3 o4 o5 o6 o7 o8 np (nI k8) dy me co ca br ml le  _) (cwV 0 hts gL_law_X5_thrown rfl rfl rfl (by decide +kernel) ⟨Nat.le_of_ble_eq_true rfl, Nat.le_of_ble_eq_true rfl⟩) (zpreV (ci := 5) (q0 := 0) hX hW rfl rfl [0] rfl (by decide)) rfl rfl hl.1 rfl (lv_room (Nat.le_of_ble_eq_true rfl)) dL_law_502 ⟨by first | (show (_ : Nat) ≤ 601024; omega) | (show (_ : Nat) ≤ 7293034; omega), by first | (show (_ : Nat) ≤ 601024; omega) | (show (_ : Nat) ≤ 7293034; omega)⟩) hX hW [0] rfl (by decide) (fun _ => rfl) (fun r_502 u_502 H locs h_502 hW => ?_)
    have hW : zW Z s A ((o0, .inr (5, [.int (nI k8), .int dy, .int me, .int co, .int (nI np), .int ca, .int br, .int ml, .ref o1, .ref o2, .ref o3, .ref o4, .ref o5, .ref o6, .int le, .ref o7, .ref o8])) :: (o1, zI Z 3770 (stF S F G)) :: (o2, zI Z 6 (qF pn 0)) :: (o3, zI Z 6 (qF pn 1)) :: (o4, zI Z 6 (qF pn 2)) :: (o5, zI Z 6 (qF pn 3)) :: (o6, zI Z 6 E) :: (o7, zI Z 29 Tk) :: (o8, zI Z 29 Lf) :: (ou, zL Z 1 ov1) :: (x, .inr (4, [.ref st, .ref pa, .int (nI np), .int dy, .int me, .int co, .int ca, .int br, .int ml, .ref sp, .ref se])) :: (st, .inr (2, [.ref sb])) :: (sb, zI Z 290 S) :: (pa, zQ Z 6 (pav ad np)) :: (sp, .inr (3, [.ref spb, .int fp])) :: (spb, zI Z 6 L) :: (se, .inr (1, [.ref sl, .ref sk])) :: (sl, zI Z 29 lf) :: (sk, zI Z 29 tk) :: zpool np (pcs Z ad F G pn)) _ _ := hW
    subst h_502
    refine zw_topi (y := (nI k8)) (rfl) ?_
    refine lv_iload hx hb dL_law_505 (lv_at hl 1 rfl) ?_
    refine zn_icmp_eq (tgt := 512) (a := k8) (b := k8) hx hb (by omega) (by omega) dL_law_507 (by decide) (fun c_507 => ?_) (fun c_507 => absurd rfl c_507)
    refine lv_iload hx hb dL_law_512 (lv_at hl 1 rfl) ?_
    refine zn_if_ne (tgt := 529) (a := k8) hx hb (by omega) dL_law_514 (by decide) (fun c_514 => ?_) (fun c_514 => (absurd c_514 (by omega) : False).elim)
    refine lv_goto (tgt := 1423) hx hb dL_law_529 (by decide) ?_
    refine W.widen (k := cells + 60) (n := slots + 700) (by omega) (by omega) ?_
    exact K _ _ _ ⟨(nI k8), dy, me, co, ca, br, ml, le, fp, np, S, E, Tk, Lf, L, lf, tk, F, G, pn, ad, ov1, hnp, gi_same hGI, hW⟩ (lv_sub hl [2, 3, 4, 5, 6] rfl)
