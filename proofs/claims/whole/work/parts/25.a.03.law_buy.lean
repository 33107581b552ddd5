set_option maxHeartbeats 8000000 in
set_option maxRecDepth 100000 in
theorem lc_buy (l : Launch) (Z : zT) {p : Program} {e : Env} {s : State} {m : MethodId} {below : List Frame} {meth : Method} {c : Code} {A : Nat → Prop} {Q : State → Prop} {b LL : Nat} {xs : Nat → Int32} (hfl : l.stackTraces = false) (hx : p.tables.exec = Jvm.exec) (hb : c.code = code) (hC : CallFix p m c code 9 s #[.ref b] wsL_law RL) (hX : zX Z s A) (hsc : va_X b LL xs s s.heap) (hbl : b < s.heap.size) (hbA : ¬ A b) (hLL : LL ≤ 2048) (o0 o1 o2 o3 o4 o5 o6 o7 o8 x st sb pa sp spb se sl sk ou : Nat) {nc ii cells slots : Nat} {H : Heap} {locs : List Loc} {ls : Array Slot} (hnc : nc < 512) (hii : ii + 4 ≤ LL) (hI : LI Z s A nc o0 o1 o2 o3 o4 o5 o6 o7 o8 x st sb pa sp spb se sl sk ou H locs) (hl : lv_has ls 9 [(0, .ref b), (1, .ref x), (2, .ref o0), (3, .ref ou), (4, .int (nI ii))]) (hr1 : cells + 60 ≤ 601024) (hr2 : slots + 700 ≤ 7293034) (K : ∀ (H : Heap) (locs : List Loc) (ls : Array Slot), LI Z s A (nc + 1) o0 o1 o2 o3 o4 o5 o6 o7 o8 x st sb pa sp spb se sl sk ou H locs → lv_has ls 9 [(0, .ref b), (1, .ref x), (2, .ref o0), (3, .ref ou), (4, .int (nI ii))] → W p l e room_1 s m #[.ref b] below meth c H locs (cells + 60) (slots + 700) Q (F0 m 1423 ls [])) : W p l e room_1 s m #[.ref b] below meth c H locs cells slots Q (F0 m 260 ls []) := by
  have hml := hC.2.2.1
  have hown : s.vm.findClass RL = some m.cls := hC.2.2.2.1
  have hts := hC.2.2.2.2
  obtain ⟨th, dy, me, co, ca, br, ml, le, fp, np, S, E, Tk, Lf, L, lf, tk, F, G, pn, ad, ov, hnp, hGI, hW⟩ := hI
  have hW : zW Z s A ((o0, .inr (5, [.int th, .int dy, .int me, .int co, .int (nI np), .int ca, .int br, .int ml, .ref o1, .ref o2, .ref o3, .ref o4, .ref o5, .ref o6, .int le, .ref o7, .ref o8])) :: (o1, zI Z 3770 (stF S F G)) :: (o2, zI Z 6 (qF pn 0)) :: (o3, zI Z 6 (qF pn 1)) :: (o4, zI Z 6 (qF pn 2)) :: (o5, zI Z 6 (qF pn 3)) :: (o6, zI Z 6 E) :: (o7, zI Z 29 Tk) :: (o8, zI Z 29 Lf) :: (ou, zL Z 1 ov) :: (x, .inr (4, [.ref st, .ref pa, .int (nI np), .int dy, .int me, .int co, .int ca, .int br, .int ml, .ref sp, .ref se])) :: (st, .inr (2, [.ref sb])) :: (sb, zI Z 290 S) :: (pa, zQ Z 6 (pav ad np)) :: (sp, .inr (3, [.ref spb, .int fp])) :: (spb, zI Z 6 L) :: (se, .inr (1, [.ref sl, .ref sk])) :: (sl, zI Z 29 lf) :: (sk, zI Z 29 tk) :: zpool np (pcs Z ad F G pn)) _ _ := hW
  refine lv_aload_n hx hb dL_law_260 rfl (lv_at hl 1 rfl) ?_
  refine lv_aload_n hx hb dL_law_261 rfl (lv_at hl 0 rfl) ?_
  refine lv_iload hx hb dL_law_262 (lv_at hl 4 rfl) ?_
  refine lv_iconst (v := nI 1) hx hb dL_law_264 (by decide) ?_
  refine lv_iadd hx hb dL_law_265 ?_
  refine zw_topi (nI_add _ _) ?_
  refine z_sld hx hb hsc hbl hbA hLL hW (k := (ii + 1)) (by omega) dL_law_266 ?_
  refine lv_aload_n hx hb dL_law_267 rfl (lv_at hl 3 rfl) ?_
  refine zcA_i (wr := [(o0, .inr (5, [.int th, .int dy, .int me, .int co, .int (nI np), .int ca, .int br, .int ml, .ref o1, .ref o2, .ref o3, .ref o4, .ref o5, .ref o6, .int le, .ref o7, .ref o8])), (o1, zI Z 3770 (stF S F G)), (o2, zI Z 6 (qF pn 0)), (o3, zI Z 6 (qF pn 1)), (o4, zI Z 6 (qF pn 2)), (o5, zI Z 6 (qF pn 3)), (o6, zI Z 6 E), (o7, zI Z 29 Tk), (o8, zI Z 29 Lf)]) (vx_runSW (As := [.ref x, .int (xs (ii + 1)), .ref ou]) (rest := []) hC (c_L_buy l Z x st sb pa sp spb se sl sk np S dy me co ca br ml fp L lf tk ad F G pn (xs (ii + 1)) ou ov hfl hnp _) (vx_cwSW 3 hts gL_law_L_buy rfl rfl rfl (by decide +kernel) ⟨Nat.le_of_ble_eq_true rfl, Nat.le_of_ble_eq_true rfl⟩) (zpreSA (wr := [(o0, .inr (5, [.int th, .int dy, .int me, .int co, .int (nI np), .int ca, .int br, .int ml, .ref o1, .ref o2, .ref o3, .ref o4, .ref o5, .ref o6, .int le, .ref o7, .ref o8])), (o1, zI Z 3770 (stF S F G)), (o2, zI Z 6 (qF pn 0)), (o3, zI Z 6 (qF pn 1)), (o4, zI Z 6 (qF pn 2)), (o5, zI Z 6 (qF pn 3)), (o6, zI Z 6 E), (o7, zI Z 29 Tk), (o8, zI Z 29 Lf)]) hX hW) rfl rfl hl.1 rfl (lv_room (Nat.le_of_ble_eq_true rfl)) dL_law_268 ⟨by first | (show (_ : Nat) ≤ 601024; omega) | (show (_ : Nat) ≤ 7293034; omega), by first | (show (_ : Nat) ≤ 601024; omega) | (show (_ : Nat) ≤ 7293034; omega)⟩) hX hW (fun r u9 H locs h9 hW => ?_)
  obtain ⟨ov1, w9⟩ := u9
  rcases h9 with ⟨hr9, hz, hov, u4, hw9⟩ | ⟨k9, hk1, hk2, hr9, u4, hw9⟩
  · have hw9 : w9 = _ := hw9
    subst hw9
    subst hr9
    have hW : zW Z s A ((o0, .inr (5, [.int th, .int dy, .int me, .int co, .int (nI np), .int ca, .int br, .int ml, .ref o1, .ref o2, .ref o3, .ref o4, .ref o5, .ref o6, .int le, .ref o7, .ref o8])) :: (o1, zI Z 3770 (stF S F G)) :: (o2, zI Z 6 (qF pn 0)) :: (o3, zI Z 6 (qF pn 1)) :: (o4, zI Z 6 (qF pn 2)) :: (o5, zI Z 6 (qF pn 3)) :: (o6, zI Z 6 E) :: (o7, zI Z 29 Tk) :: (o8, zI Z 29 Lf) :: (ou, zL Z 1 ov1) :: (x, .inr (4, [.ref st, .ref pa, .int (nI np), .int dy, .int (me + (xs (ii + 1))), .int co, .int ca, .int br, .int ml, .ref sp, .ref se])) :: (st, .inr (2, [.ref sb])) :: (sb, zI Z 290 S) :: (pa, zQ Z 6 (pav ad np)) :: (sp, .inr (3, [.ref spb, .int fp])) :: (spb, zI Z 6 L) :: (se, .inr (1, [.ref sl, .ref sk])) :: (sl, zI Z 29 lf) :: (sk, zI Z 29 tk) :: zpool np (pcs Z ad F G pn)) _ _ := hW
    refine lv_istore (lv' := [(5, .int (nI 0)), (0, .ref b), (1, .ref x), (2, .ref o0), (3, .ref ou), (4, .int (nI ii))]) hx hb dL_law_271 hl (by decide) rfl (fun ls hl => ?_)
    refine lv_aload_n hx hb dL_law_273 rfl (lv_at hl 3 rfl) ?_
    refine lv_aload_n hx hb dL_law_274 rfl (lv_at hl 1 rfl) ?_
    refine lv_iload hx hb dL_law_275 (lv_at hl 5 rfl) ?_
    refine lv_iconst (v := nI 1) hx hb dL_law_277 (by decide) ?_
    refine lv_iadd hx hb dL_law_278 ?_
    refine zw_topi (nI_add _ _) ?_
    refine z_sld hx hb hsc hbl hbA hLL hW (k := (ii + 1)) (by omega) dL_law_279 ?_
    refine zc_i (va_runV (As := [.int (xs (ii + 1))]) (rest := []) hC (c_X5_buy l Z o0 o1 o2 o3 o4 o5 o6 o7 o8 np th dy me co ca br ml le S E Tk Lf F G pn (xs (ii + 1)) (gi_GA hGI (by omega)) hnp _) (cwV 1 hts gL_law_X5_buy rfl rfl rfl (by decide +kernel) ⟨Nat.le_of_ble_eq_true rfl, Nat.le_of_ble_eq_true rfl⟩) (zpreV (ci := 5) (q0 := 0) hX hW rfl rfl [0, 1, 2, 3, 4, 5, 6, 7, 8] rfl (by decide)) rfl rfl hl.1 rfl (lv_room (Nat.le_of_ble_eq_true rfl)) dL_law_280 ⟨by first | (show (_ : Nat) ≤ 601024; omega) | (show (_ : Nat) ≤ 7293034; omega), by first | (show (_ : Nat) ≤ 601024; omega) | (show (_ : Nat) ≤ 7293034; omega)⟩) hX hW [0, 1, 2, 3, 4, 5, 6, 7, 8] rfl (by decide) (fun _ => rfl) (fun r_280 u_280 H locs h_280 hW => ?_)
    obtain ⟨th_1_280, me_1_280⟩ := u_280
    have hW : zW Z s A ((o0, .inr (5, [.int th_1_280, .int dy, .int me_1_280, .int co, .int (nI np), .int ca, .int br, .int ml, .ref o1, .ref o2, .ref o3, .ref o4, .ref o5, .ref o6, .int le, .ref o7, .ref o8])) :: (o1, zI Z 3770 (stF S F G)) :: (o2, zI Z 6 (qF pn 0)) :: (o3, zI Z 6 (qF pn 1)) :: (o4, zI Z 6 (qF pn 2)) :: (o5, zI Z 6 (qF pn 3)) :: (o6, zI Z 6 E) :: (o7, zI Z 29 Tk) :: (o8, zI Z 29 Lf) :: (ou, zL Z 1 ov1) :: (x, .inr (4, [.ref st, .ref pa, .int (nI np), .int dy, .int (me + (xs (ii + 1))), .int co, .int ca, .int br, .int ml, .ref sp, .ref se])) :: (st, .inr (2, [.ref sb])) :: (sb, zI Z 290 S) :: (pa, zQ Z 6 (pav ad np)) :: (sp, .inr (3, [.ref spb, .int fp])) :: (spb, zI Z 6 L) :: (se, .inr (1, [.ref sl, .ref sk])) :: (sl, zI Z 29 lf) :: (sk, zI Z 29 tk) :: zpool np (pcs Z ad F G pn)) _ _ := hW
    rcases h_280 with ⟨e_th, hz2, hr2, e_me⟩ | ⟨k8, hj1, hj2, e_th, e_me⟩
    rotate_left
    · exact absurd hz (by omega)
    replace e_th := e_th.symm
    subst e_th
    replace e_me := e_me.symm
    subst e_me
    have hov : ov1 0 = (me + (xs (ii + 1))).toInt64 := hov
    generalize (me + (xs (ii + 1))) = R9 at hov hr2
    replace hr2 := hr2.symm
    subst hr2
    have hW : zW Z s A ((o0, .inr (5, [.int (nI 0), .int dy, .int (me + (xs (ii + 1))), .int co, .int (nI np), .int ca, .int br, .int ml, .ref o1, .ref o2, .ref o3, .ref o4, .ref o5, .ref o6, .int le, .ref o7, .ref o8])) :: (o1, zI Z 3770 (stF S F G)) :: (o2, zI Z 6 (qF pn 0)) :: (o3, zI Z 6 (qF pn 1)) :: (o4, zI Z 6 (qF pn 2)) :: (o5, zI Z 6 (qF pn 3)) :: (o6, zI Z 6 E) :: (o7, zI Z 29 Tk) :: (o8, zI Z 29 Lf) :: (ou, zL Z 1 ov1) :: (x, .inr (4, [.ref st, .ref pa, .int (nI np), .int dy, .int (me + (xs (ii + 1))), .int co, .int ca, .int br, .int ml, .ref sp, .ref se])) :: (st, .inr (2, [.ref sb])) :: (sb, zI Z 290 S) :: (pa, zQ Z 6 (pav ad np)) :: (sp, .inr (3, [.ref spb, .int fp])) :: (spb, zI Z 6 L) :: (se, .inr (1, [.ref sl, .ref sk])) :: (sl, zI Z 29 lf) :: (sk, zI Z 29 tk) :: zpool np (pcs Z ad F G pn)) _ _ := hW
    refine lv_istore (lv' := [(6, .int R9), (5, .int (nI 0)), (0, .ref b), (1, .ref x), (2, .ref o0), (3, .ref ou), (4, .int (nI ii))]) hx hb dL_law_283 hl (by decide) rfl (fun ls hl => ?_)
    refine lv_aload_n hx hb dL_law_285 rfl (lv_at hl 4 rfl) ?_
    refine zc_i (va_runV (As := []) (rest := []) hC (c_X5_thrown l Z o0 o1 o2 o3 o4 o5 o6 o7 o8 np (nI 0) dy (me + (xs (ii + 1))) co ca br ml le  _) (cwV 0 hts gL_law_X5_thrown rfl rfl rfl (by decide +kernel) ⟨Nat.le_of_ble_eq_true rfl, Nat.le_of_ble_eq_true rfl⟩) (zpreV (ci := 5) (q0 := 0) hX hW rfl rfl [0] rfl (by decide)) rfl rfl hl.1 rfl (lv_room (Nat.le_of_ble_eq_true rfl)) dL_law_286 ⟨by first | (show (_ : Nat) ≤ 601024; omega) | (show (_ : Nat) ≤ 7293034; omega), by first | (show (_ : Nat) ≤ 601024; omega) | (show (_ : Nat) ≤ 7293034; omega)⟩) hX hW [0] rfl (by decide) (fun _ => rfl) (fun r_286 u_286 H locs h_286 hW => ?_)
    have hW : zW Z s A ((o0, .inr (5, [.int (nI 0), .int dy, .int (me + (xs (ii + 1))), .int co, .int (nI np), .int ca, .int br, .int ml, .ref o1, .ref o2, .ref o3, .ref o4, .ref o5, .ref o6, .int le, .ref o7, .ref o8])) :: (o1, zI Z 3770 (stF S F G)) :: (o2, zI Z 6 (qF pn 0)) :: (o3, zI Z 6 (qF pn 1)) :: (o4, zI Z 6 (qF pn 2)) :: (o5, zI Z 6 (qF pn 3)) :: (o6, zI Z 6 E) :: (o7, zI Z 29 Tk) :: (o8, zI Z 29 Lf) :: (ou, zL Z 1 ov1) :: (x, .inr (4, [.ref st, .ref pa, .int (nI np), .int dy, .int (me + (xs (ii + 1))), .int co, .int ca, .int br, .int ml, .ref sp, .ref se])) :: (st, .inr (2, [.ref sb])) :: (sb, zI Z 290 S) :: (pa, zQ Z 6 (pav ad np)) :: (sp, .inr (3, [.ref spb, .int fp])) :: (spb, zI Z 6 L) :: (se, .inr (1, [.ref sl, .ref sk])) :: (sl, zI Z 29 lf) :: (sk, zI Z 29 tk) :: zpool np (pcs Z ad F G pn)) _ _ := hW
    subst h_286
    refine zw_topi (y := (nI 0)) (rfl) ?_
    refine lv_iload hx hb dL_law_289 (lv_at hl 1 rfl) ?_
    refine zn_icmp_eq (tgt := 296) (a := 0) (b := 0) hx hb (by omega) (by omega) dL_law_291 (by decide) (fun c_291 => ?_) (fun c_291 => absurd rfl c_291)
    refine lv_iload hx hb dL_law_296 (lv_at hl 1 rfl) ?_
    refine zn_if_ne (tgt := 313) (a := 0) hx hb (by omega) dL_law_298 (by decide) (fun c_298 => absurd c_298 (by omega)) (fun c_298 => ?_)
    refine lv_aload_n hx hb dL_law_301 rfl (lv_at hl 5 rfl) ?_
    refine lv_iconst (v := nI 0) hx hb dL_law_302 (by decide) ?_
    refine z_lald hx hb hX hW 9 rfl (k := 0) (by omega) (by omega) dL_law_303 ?_
    refine zw_topl (y := R9.toInt64) (hov) ?_
    refine lv_iload hx hb dL_law_304 (lv_at hl 0 rfl) ?_
    refine lv_i2l (v := R9.toInt64) hx hb dL_law_306 rfl ?_
    refine W.lcmp hx hb dL_law_307 ?_
    refine zw_topi (y := (nI 0)) (lg_self _) ?_
    refine zn_if_eq (tgt := 313) (a := 0) hx hb (by omega) dL_law_308 (by decide) (fun c_308 => ?_) (fun c_308 => absurd rfl c_308)
    refine lv_goto (tgt := 1423) hx hb dL_law_313 (by decide) ?_
    refine W.widen (k := cells + 60) (n := slots + 700) (by omega) (by omega) ?_
    exact K _ _ _ ⟨(nI 0), dy, me + (xs (ii + 1)), co, ca, br, ml, le, fp, np, S, E, Tk, Lf, L, lf, tk, F, G, pn, ad, ov1, hnp, gi_same hGI, hW⟩ (lv_sub hl [2, 3, 4, 5, 6] rfl)
  · have hw9 : w9 = _ := hw9
    subst hw9
    subst hr9
    have hk3 : k9 ≤ 3 := by rw [hk2]; exact cdx_le _ _ _
    have hW : zW Z s A ((o0, .inr (5, [.int th, .int dy, .int me, .int co, .int (nI np), .int ca, .int br, .int ml, .ref o1, .ref o2, .ref o3, .ref o4, .ref o5, .ref o6, .int le, .ref o7, .ref o8])) :: (o1, zI Z 3770 (stF S F G)) :: (o2, zI Z 6 (qF pn 0)) :: (o3, zI Z 6 (qF pn 1)) :: (o4, zI Z 6 (qF pn 2)) :: (o5, zI Z 6 (qF pn 3)) :: (o6, zI Z 6 E) :: (o7, zI Z 29 Tk) :: (o8, zI Z 29 Lf) :: (ou, zL Z 1 ov1) :: (x, .inr (4, [.ref st, .ref pa, .int (nI np), .int dy, .int me, .int co, .int ca, .int br, .int ml, .ref sp, .ref se])) :: (st, .inr (2, [.ref sb])) :: (sb, zI Z 290 S) :: (pa, zQ Z 6 (pav ad np)) :: (sp, .inr (3, [.ref spb, .int fp])) :: (spb, zI Z 6 L) :: (se, .inr (1, [.ref sl, .ref sk])) :: (sl, zI Z 29 lf) :: (sk, zI Z 29 tk) :: zpool np (pcs Z ad F G pn)) _ _ := hW
    refine lv_istore (lv' := [(5, .int (nI k9)), (0, .ref b), (1, .ref x), (2, .ref o0), (3, .ref ou), (4, .int (nI ii))]) hx hb dL_law_271 hl (by decide) rfl (fun ls hl => ?_)
    refine lv_aload_n hx hb dL_law_273 rfl (lv_at hl 3 rfl) ?_
    refine lv_aload_n hx hb dL_law_274 rfl (lv_at hl 1 rfl) ?_
    refine lv_iload hx hb dL_law_275 (lv_at hl 5 rfl) ?_
    refine lv_iconst (v := nI 1) hx hb dL_law_277 (by decide) ?_
    refine lv_iadd hx hb dL_law_278 ?_
    refine zw_topi (nI_add _ _) ?_
    refine z_sld hx hb hsc hbl hbA hLL hW (k := (ii + 1)) (by omega) dL_law_279 ?_
    refine zc_i (va_runV (As := [.int (xs (ii + 1))]) (rest := []) hC (c_X5_buy l Z o0 o1 o2 o3 o4 o5 o6 o7 o8 np th dy me co ca br ml le S E Tk Lf F G pn (xs (ii + 1)) (gi_GA hGI (by omega)) hnp _) (cwV 1 hts gL_law_X5_buy rfl rfl rfl (by decide +kernel) ⟨Nat.le_of_ble_eq_true rfl, Nat.le_of_ble_eq_true rfl⟩) (zpreV (ci := 5) (q0 := 0) hX hW rfl rfl [0, 1, 2, 3, 4, 5, 6, 7, 8] rfl (by decide)) rfl rfl hl.1 rfl (lv_room (Nat.le_of_ble_eq_true rfl)) dL_law_280 ⟨by first | (show (_ : Nat) ≤ 601024; omega) | (show (_ : Nat) ≤ 7293034; omega), by first | (show (_ : Nat) ≤ 601024; omega) | (show (_ : Nat) ≤ 7293034; omega)⟩) hX hW [0, 1, 2, 3, 4, 5, 6, 7, 8] rfl (by decide) (fun _ => rfl) (fun r_280 u_280 H locs h_280 hW => ?_)
    obtain ⟨th_1_280, me_1_280⟩ := u_280
    have hW : zW Z s A ((o0, .inr (5, [.int th_1_280, .int dy, .int me_1_280, .int co, .int (nI np), .int ca, .int br, .int ml, .ref o1, .ref o2, .ref o3, .ref o4, .ref o5, .ref o6, .int le, .ref o7, .ref o8])) :: (o1, zI Z 3770 (stF S F G)) :: (o2, zI Z 6 (qF pn 0)) :: (o3, zI Z 6 (qF pn 1)) :: (o4, zI Z 6 (qF pn 2)) :: (o5, zI Z 6 (qF pn 3)) :: (o6, zI Z 6 E) :: (o7, zI Z 29 Tk) :: (o8, zI Z 29 Lf) :: (ou, zL Z 1 ov1) :: (x, .inr (4, [.ref st, .ref pa, .int (nI np), .int dy, .int me, .int co, .int ca, .int br, .int ml, .ref sp, .ref se])) :: (st, .inr (2, [.ref sb])) :: (sb, zI Z 290 S) :: (pa, zQ Z 6 (pav ad np)) :: (sp, .inr (3, [.ref spb, .int fp])) :: (spb, zI Z 6 L) :: (se, .inr (1, [.ref sl, .ref sk])) :: (sl, zI Z 29 lf) :: (sk, zI Z 29 tk) :: zpool np (pcs Z ad F G pn)) _ _ := hW
    rcases h_280 with ⟨e_th, hz2, hr2, e_me⟩ | ⟨k8, hj1, hj2, e_th, e_me⟩
    · exact absurd hz2 (by omega)
    obtain rfl : k8 = k9 := by omega
    replace e_th := e_th.symm
    subst e_th
    replace e_me := e_me.symm
    subst e_me
    have hW : zW Z s A ((o0, .inr (5, [.int (nI k8), .int dy, .int me, .int co, .int (nI np), .int ca, .int br, .int ml, .ref o1, .ref o2, .ref o3, .ref o4, .ref o5, .ref o6, .int le, .ref o7, .ref o8])) :: (o1, zI Z 3770 (stF S F G)) :: (o2, zI Z 6 (qF pn 0)) :: (o3, zI Z 6 (qF pn 1)) :: (o4, zI Z 6 (qF pn 2)) :: (o5, zI Z 6 (qF pn 3)) :: (o6, zI Z 6 E) :: (o7, zI Z 29 Tk) :: (o8, zI Z 29 Lf) :: (ou, zL Z 1 ov1) :: (x, .inr (4, [.ref st, .ref pa, .int (nI np), .int dy, .int me, .int co, .int ca, .int br, .int ml, .ref sp, .ref se])) :: (st, .inr (2, [.ref sb])) :: (sb, zI Z 290 S) :: (pa, zQ Z 6 (pav ad np)) :: (sp, .inr (3, [.ref spb, .int fp])) :: (spb, zI Z 6 L) :: (se, .inr (1, [.ref sl, .ref sk])) :: (sl, zI Z 29 lf) :: (sk, zI Z 29 tk) :: zpool np (pcs Z ad F G pn)) _ _ := hW
    refine lv_istore (lv' := [(6, .int r_280), (5, .int (nI k8)), (0, .ref b), (1, .ref x), (2, .ref o0), (3, .ref ou), (4, .int (nI ii))]) hx hb dL_law_283 hl (by decide) rfl (fun ls hl => ?_)
    refine lv_aload_n hx hb dL_law_285 rfl (lv_at hl 4 rfl) ?_
    refine zc_i (va_runV (As := []) (rest := []) hC (c_X5_thrown l Z o0 o1 o2 o3 o4 o5 o6 o7 o8 np (nI k8) dy me co ca br ml le  _) (cwV 0 hts gL_law_X5_thrown rfl rfl rfl (by decide +kernel) ⟨Nat.le_of_ble_eq_true rfl, Nat.le_of_ble_eq_true rfl⟩) (zpreV (ci := 5) (q0 := 0) hX hW rfl rfl [0] rfl (by decide)) rfl rfl hl.1 rfl (lv_room (Nat.le_of_ble_eq_true rfl)) dL_law_286 ⟨by first | (show (_ : Nat) ≤ 601024; omega) | (show (_ : Nat) ≤ 7293034; omega), by first | (show (_ : Nat) ≤ 601024; omega) | (show (_ : Nat) ≤ 7293034; omega)⟩) hX hW [0] rfl (by decide) (fun _ => rfl) (fun r_286 u_286 H locs h_286 hW => ?_)
    have hW : zW Z s A ((o0, .inr (5, [.int (nI k8), .int dy, .int me, .int co, .int (nI np), .int ca, .int br, .int ml, .ref o1, .ref o2, .ref o3, .ref o4, .ref o5, .ref o6, .int le, .ref o7, .ref o8])) :: (o1, zI Z 3770 (stF S F G)) :: (o2, zI Z 6 (qF pn 0)) :: (o3, zI Z 6 (qF pn 1)) :: (o4, zI Z 6 (qF pn 2)) :: (o5, zI Z 6 (qF pn 3)) :: (o6, zI Z 6 E) :: (o7, zI Z 29 Tk) :: (o8, zI Z 29 Lf) :: (ou, zL Z 1 ov1) :: (x, .inr (4, [.ref st, .ref pa, .int (nI np), .int dy, .int me, .int co, .int ca, .int br, .int ml, .ref sp, .ref se])) :: (st, .inr (2, [.ref sb])) :: (sb, zI Z 290 S) :: (pa, zQ Z 6 (pav ad np)) :: (sp, .inr (3, [.ref spb, .int fp])) :: (spb, zI Z 6 L) :: (se, .inr (1, [.ref sl, .ref sk])) :: (sl, zI Z 29 lf) :: (sk, zI Z 29 tk) :: zpool np (pcs Z ad F G pn)) _ _ := hW
    subst h_286
    refine zw_topi (y := (nI k8)) (rfl) ?_
    refine lv_iload hx hb dL_law_289 (lv_at hl 1 rfl) ?_
    refine zn_icmp_eq (tgt := 296) (a := k8) (b := k8) hx hb (by omega) (by omega) dL_law_291 (by decide) (fun c_291 => ?_) (fun c_291 => absurd rfl c_291)
    refine lv_iload hx hb dL_law_296 (lv_at hl 1 rfl) ?_
    refine zn_if_ne (tgt := 313) (a := k8) hx hb (by omega) dL_law_298 (by decide) (fun c_298 => ?_) (fun c_298 => (absurd c_298 (by omega) : False).elim)
    refine lv_goto (tgt := 1423) hx hb dL_law_313 (by decide) ?_
    refine W.widen (k := cells + 60) (n := slots + 700) (by omega) (by omega) ?_
    exact K _ _ _ ⟨(nI k8), dy, me, co, ca, br, ml, le, fp, np, S, E, Tk, Lf, L, lf, tk, F, G, pn, ad, ov1, hnp, gi_same hGI, hW⟩ (lv_sub hl [2, 3, 4, 5, 6] rfl)
