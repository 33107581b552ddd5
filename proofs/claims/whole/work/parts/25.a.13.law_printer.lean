set_option maxHeartbeats 8000000 in
set_option maxRecDepth 100000 in
theorem lc_printer (l : Launch) (Z : zT) {p : Program} {e : Env} {s : State} {m : MethodId} {below : List Frame} {meth : Method} {c : Code} {A : Nat → Prop} {Q : State → Prop} {b LL : Nat} {xs : Nat → Int32} (hfl : l.stackTraces = false) (hx : p.tables.exec = Jvm.exec) (hb : c.code = code) (hC : CallFix p m c code 9 s #[.ref b] wsL_law RL) (hX : zX Z s A) (hsc : va_X b LL xs s s.heap) (hbl : b < s.heap.size) (hbA : ¬ A b) (hLL : LL ≤ 2048) (o0 o1 o2 o3 o4 o5 o6 o7 o8 x st sb pa sp spb se sl sk ou : Nat) {nc ii cells slots : Nat} {H : Heap} {locs : List Loc} {ls : Array Slot} (hnc : nc < 512) (hii : ii + 4 ≤ LL) (hI : LI Z s A nc o0 o1 o2 o3 o4 o5 o6 o7 o8 x st sb pa sp spb se sl sk ou H locs) (hl : lv_has ls 9 [(0, .ref b), (1, .ref x), (2, .ref o0), (3, .ref ou), (4, .int (nI ii))]) (hr1 : cells + 60 ≤ 601024) (hr2 : slots + 700 ≤ 7293034) (K : ∀ (H : Heap) (locs : List Loc) (ls : Array Slot), LI Z s A (nc + 1) o0 o1 o2 o3 o4 o5 o6 o7 o8 x st sb pa sp spb se sl sk ou H locs → lv_has ls 9 [(0, .ref b), (1, .ref x), (2, .ref o0), (3, .ref ou), (4, .int (nI ii))] → W p l e room_1 s m #[.ref b] below meth c H locs (cells + 60) (slots + 700) Q (F0 m 1423 ls [])) : W p l e room_1 s m #[.ref b] below meth c H locs cells slots Q (F0 m 916 ls []) := by
  have hml := hC.2.2.1
  have hown : s.vm.findClass RL = some m.cls := hC.2.2.2.1
  have hts := hC.2.2.2.2
  obtain ⟨th, dy, me, co, ca, br, ml, le, fp, np, S, E, Tk, Lf, L, lf, tk, F, G, pn, ad, ov, hnp, hGI, hW⟩ := hI
  have hW : zW Z s A ((o0, .inr (5, [.int th, .int dy, .int me, .int co, .int (nI np), .int ca, .int br, .int ml, .ref o1, .ref o2, .ref o3, .ref o4, .ref o5, .ref o6, .int le, .ref o7, .ref o8])) :: (o1, zI Z 3770 (stF S F G)) :: (o2, zI Z 6 (qF pn 0)) :: (o3, zI Z 6 (qF pn 1)) :: (o4, zI Z 6 (qF pn 2)) :: (o5, zI Z 6 (qF pn 3)) :: (o6, zI Z 6 E) :: (o7, zI Z 29 Tk) :: (o8, zI Z 29 Lf) :: (ou, zL Z 1 ov) :: (x, .inr (4, [.ref st, .ref pa, .int (nI np), .int dy, .int me, .int co, .int ca, .int br, .int ml, .ref sp, .ref se])) :: (st, .inr (2, [.ref sb])) :: (sb, zI Z 290 S) :: (pa, zQ Z 6 (pav ad np)) :: (sp, .inr (3, [.ref spb, .int fp])) :: (spb, zI Z 6 L) :: (se, .inr (1, [.ref sl, .ref sk])) :: (sl, zI Z 29 lf) :: (sk, zI Z 29 tk) :: zpool np (pcs Z ad F G pn)) _ _ := hW
  refine lv_aload_n hx hb dL_law_916 rfl (lv_at hl 1 rfl) ?_
  refine lv_aload_n hx hb dL_law_917 rfl (lv_at hl 0 rfl) ?_
  refine lv_iload hx hb dL_law_918 (lv_at hl 4 rfl) ?_
  refine lv_iconst (v := nI 1) hx hb dL_law_920 (by decide) ?_
  refine lv_iadd hx hb dL_law_921 ?_
  refine zw_topi (nI_add _ _) ?_
  refine z_sld hx hb hsc hbl hbA hLL hW (k := (ii + 1)) (by omega) dL_law_922 ?_
  refine lv_aload_n hx hb dL_law_923 rfl (lv_at hl 0 rfl) ?_
  refine lv_iload hx hb dL_law_924 (lv_at hl 4 rfl) ?_
  refine lv_iconst (v := nI 2) hx hb dL_law_926 (by decide) ?_
  refine lv_iadd hx hb dL_law_927 ?_
  refine zw_topi (nI_add _ _) ?_
  refine z_sld hx hb hsc hbl hbA hLL hW (k := (ii + 2)) (by omega) dL_law_928 ?_
  refine lv_aload_n hx hb dL_law_929 rfl (lv_at hl 3 rfl) ?_
  refine zcA_i (wr := [(o0, .inr (5, [.int th, .int dy, .int me, .int co, .int (nI np), .int ca, .int br, .int ml, .ref o1, .ref o2, .ref o3, .ref o4, .ref o5, .ref o6, .int le, .ref o7, .ref o8])), (o1, zI Z 3770 (stF S F G)), (o2, zI Z 6 (qF pn 0)), (o3, zI Z 6 (qF pn 1)), (o4, zI Z 6 (qF pn 2)), (o5, zI Z 6 (qF pn 3)), (o6, zI Z 6 E), (o7, zI Z 29 Tk), (o8, zI Z 29 Lf)]) (vx_runSW (As := [.ref x, .int (xs (ii + 1)), .int (xs (ii + 2)), .ref ou]) (rest := []) hC (c_L_printer l Z x st sb pa sp spb se sl sk np S dy me co ca br ml fp L lf tk ad F G pn (xs (ii + 1)) (xs (ii + 2)) ou ov hfl hnp _) (vx_cwSW 4 hts gL_law_L_printer rfl rfl rfl (by decide +kernel) ⟨Nat.le_of_ble_eq_true rfl, Nat.le_of_ble_eq_true rfl⟩) (zpreSA (wr := [(o0, .inr (5, [.int th, .int dy, .int me, .int co, .int (nI np), .int ca, .int br, .int ml, .ref o1, .ref o2, .ref o3, .ref o4, .ref o5, .ref o6, .int le, .ref o7, .ref o8])), (o1, zI Z 3770 (stF S F G)), (o2, zI Z 6 (qF pn 0)), (o3, zI Z 6 (qF pn 1)), (o4, zI Z 6 (qF pn 2)), (o5, zI Z 6 (qF pn 3)), (o6, zI Z 6 E), (o7, zI Z 29 Tk), (o8, zI Z 29 Lf)]) hX hW) rfl rfl hl.1 rfl (lv_room (Nat.le_of_ble_eq_true rfl)) dL_law_930 ⟨by first | (show (_ : Nat) ≤ 601024; omega) | (show (_ : Nat) ≤ 7293034; omega), by first | (show (_ : Nat) ≤ 601024; omega) | (show (_ : Nat) ≤ 7293034; omega)⟩) hX hW (fun r u9 H locs h9 hW => ?_)
  obtain ⟨ov1, w9⟩ := u9
  rcases h9 with ⟨hr9, hz, hov, u4, hw9⟩ | ⟨k9, hk1, hk2, hr9, u4, hw9⟩
  · have hw9 : w9 = _ := hw9
    subst hw9
    subst hr9
    have hW : zW Z s A ((o0, .inr (5, [.int th, .int dy, .int me, .int co, .int (nI np), .int ca, .int br, .int ml, .ref o1, .ref o2, .ref o3, .ref o4, .ref o5, .ref o6, .int le, .ref o7, .ref o8])) :: (o1, zI Z 3770 (stF S F G)) :: (o2, zI Z 6 (qF pn 0)) :: (o3, zI Z 6 (qF pn 1)) :: (o4, zI Z 6 (qF pn 2)) :: (o5, zI Z 6 (qF pn 3)) :: (o6, zI Z 6 E) :: (o7, zI Z 29 Tk) :: (o8, zI Z 29 Lf) :: (ou, zL Z 1 ov1) :: (x, .inr (4, [.ref st, .ref pa, .int (nI np), .int dy, .int me, .int co, .int ca, .int br, .int ml, .ref sp, .ref se])) :: (st, .inr (2, [.ref sb])) :: (sb, zI Z 290 S) :: (pa, zQ Z 6 (pav ad np)) :: (sp, .inr (3, [.ref spb, .int fp])) :: (spb, zI Z 6 L) :: (se, .inr (1, [.ref sl, .ref sk])) :: (sl, zI Z 29 lf) :: (sk, zI Z 29 tk) :: zpool np (pcs Z ad F G pn)) _ _ := hW
    refine lv_istore (lv' := [(5, .int (nI 0)), (0, .ref b), (1, .ref x), (2, .ref o0), (3, .ref ou), (4, .int (nI ii))]) hx hb dL_law_933 hl (by decide) rfl (fun ls hl => ?_)
    refine lv_aload_n hx hb dL_law_935 rfl (lv_at hl 3 rfl) ?_
    refine lv_aload_n hx hb dL_law_936 rfl (lv_at hl 1 rfl) ?_
    refine lv_iload hx hb dL_law_937 (lv_at hl 5 rfl) ?_
    refine lv_iconst (v := nI 1) hx hb dL_law_939 (by decide) ?_
    refine lv_iadd hx hb dL_law_940 ?_
    refine zw_topi (nI_add _ _) ?_
    refine z_sld hx hb hsc hbl hbA hLL hW (k := (ii + 1)) (by omega) dL_law_941 ?_
    refine lv_aload_n hx hb dL_law_942 rfl (lv_at hl 1 rfl) ?_
    refine lv_iload hx hb dL_law_943 (lv_at hl 5 rfl) ?_
    refine lv_iconst (v := nI 2) hx hb dL_law_945 (by decide) ?_
    refine lv_iadd hx hb dL_law_946 ?_
    refine zw_topi (nI_add _ _) ?_
    refine z_sld hx hb hsc hbl hbA hLL hW (k := (ii + 2)) (by omega) dL_law_947 ?_
    refine zc_i (va_runV (As := [.int (xs (ii + 1)), .int (xs (ii + 2))]) (rest := []) hC (c_X5_printer l Z o0 o1 o2 o3 o4 o5 o6 o7 o8 np th dy me co ca br ml le S E Tk Lf F G pn (xs (ii + 1)) (xs (ii + 2)) (gi_GA hGI (by omega)) hnp _) (cwV 2 hts gL_law_X5_printer rfl rfl rfl (by decide +kernel) ⟨Nat.le_of_ble_eq_true rfl, Nat.le_of_ble_eq_true rfl⟩) (zpreV (ci := 5) (q0 := 0) hX hW rfl rfl [0, 1, 2, 3, 4, 5, 6, 7, 8] rfl (by decide)) rfl rfl hl.1 rfl (lv_room (Nat.le_of_ble_eq_true rfl)) dL_law_948 ⟨by first | (show (_ : Nat) ≤ 601024; omega) | (show (_ : Nat) ≤ 7293034; omega), by first | (show (_ : Nat) ≤ 601024; omega) | (show (_ : Nat) ≤ 7293034; omega)⟩) hX hW [0, 1, 2, 3, 4, 5, 6, 7, 8] rfl (by decide) (fun _ => rfl) (fun r_948 u_948 H locs h_948 hW => ?_)
    obtain ⟨th_1_948, rfl⟩ : ∃ z, z = u_948 := ⟨_, rfl⟩
    have hW : zW Z s A ((o0, .inr (5, [.int th_1_948, .int dy, .int me, .int co, .int (nI np), .int ca, .int br, .int ml, .ref o1, .ref o2, .ref o3, .ref o4, .ref o5, .ref o6, .int le, .ref o7, .ref o8])) :: (o1, zI Z 3770 (stF S F G)) :: (o2, zI Z 6 (qF pn 0)) :: (o3, zI Z 6 (qF pn 1)) :: (o4, zI Z 6 (qF pn 2)) :: (o5, zI Z 6 (qF pn 3)) :: (o6, zI Z 6 E) :: (o7, zI Z 29 Tk) :: (o8, zI Z 29 Lf) :: (ou, zL Z 1 ov1) :: (x, .inr (4, [.ref st, .ref pa, .int (nI np), .int dy, .int me, .int co, .int ca, .int br, .int ml, .ref sp, .ref se])) :: (st, .inr (2, [.ref sb])) :: (sb, zI Z 290 S) :: (pa, zQ Z 6 (pav ad np)) :: (sp, .inr (3, [.ref spb, .int fp])) :: (spb, zI Z 6 L) :: (se, .inr (1, [.ref sl, .ref sk])) :: (sl, zI Z 29 lf) :: (sk, zI Z 29 tk) :: zpool np (pcs Z ad F G pn)) _ _ := hW
    rcases h_948 with ⟨e_th, hz2, hr2⟩ | ⟨k8, hj1, hj2, e_th⟩
    rotate_left
    · exact absurd hz (by omega)
    replace e_th := e_th.symm
    subst e_th
    have hov : ov1 0 = (nmb (F (sn (xs (ii + 1)))) (G (sn (xs (ii + 1)))) (q4 (pn (sn (xs (ii + 1))) 0) (pn (sn (xs (ii + 1))) 1) (pn (sn (xs (ii + 1))) 2) (pn (sn (xs (ii + 1))) 3)) (sn (xs (ii + 2)))).toInt64 := hov
    generalize (nmb (F (sn (xs (ii + 1)))) (G (sn (xs (ii + 1)))) (q4 (pn (sn (xs (ii + 1))) 0) (pn (sn (xs (ii + 1))) 1) (pn (sn (xs (ii + 1))) 2) (pn (sn (xs (ii + 1))) 3)) (sn (xs (ii + 2)))) = R9 at hov hr2
    replace hr2 := hr2.symm
    subst hr2
    have hW : zW Z s A ((o0, .inr (5, [.int (nI 0), .int dy, .int me, .int co, .int (nI np), .int ca, .int br, .int ml, .ref o1, .ref o2, .ref o3, .ref o4, .ref o5, .ref o6, .int le, .ref o7, .ref o8])) :: (o1, zI Z 3770 (stF S F G)) :: (o2, zI Z 6 (qF pn 0)) :: (o3, zI Z 6 (qF pn 1)) :: (o4, zI Z 6 (qF pn 2)) :: (o5, zI Z 6 (qF pn 3)) :: (o6, zI Z 6 E) :: (o7, zI Z 29 Tk) :: (o8, zI Z 29 Lf) :: (ou, zL Z 1 ov1) :: (x, .inr (4, [.ref st, .ref pa, .int (nI np), .int dy, .int me, .int co, .int ca, .int br, .int ml, .ref sp, .ref se])) :: (st, .inr (2, [.ref sb])) :: (sb, zI Z 290 S) :: (pa, zQ Z 6 (pav ad np)) :: (sp, .inr (3, [.ref spb, .int fp])) :: (spb, zI Z 6 L) :: (se, .inr (1, [.ref sl, .ref sk])) :: (sl, zI Z 29 lf) :: (sk, zI Z 29 tk) :: zpool np (pcs Z ad F G pn)) _ _ := hW
    refine lv_istore (lv' := [(6, .int R9), (5, .int (nI 0)), (0, .ref b), (1, .ref x), (2, .ref o0), (3, .ref ou), (4, .int (nI ii))]) hx hb dL_law_951 hl (by decide) rfl (fun ls hl => ?_)
    refine lv_aload_n hx hb dL_law_953 rfl (lv_at hl 4 rfl) ?_
    refine zc_i (va_runV (As := []) (rest := []) hC (c_X5_thrown l Z o0 o1 o2 o3 o4 o5 o6 o7 o8 np (nI 0) dy me co ca br ml le  _) (cwV 0 hts gL_law_X5_thrown rfl rfl rfl (by decide +kernel) ⟨Nat.le_of_ble_eq_true rfl, Nat.le_of_ble_eq_true rfl⟩) (zpreV (ci := 5) (q0 := 0) hX hW rfl rfl [0] rfl (by decide)) rfl rfl hl.1 rfl (lv_room (Nat.le_of_ble_eq_true rfl)) dL_law_954 ⟨by first | (show (_ : Nat) ≤ 601024; omega) | (show (_ : Nat) ≤ 7293034; omega), by first | (show (_ : Nat) ≤ 601024; omega) | (show (_ : Nat) ≤ 7293034; omega)⟩) hX hW [0] rfl (by decide) (fun _ => rfl) (fun r_954 u_954 H locs h_954 hW => ?_)
    have hW : zW Z s A ((o0, .inr (5, [.int (nI 0), .int dy, .int me, .int co, .int (nI np), .int ca, .int br, .int ml, .ref o1, .ref o2, .ref o3, .ref o4, .ref o5, .ref o6, .int le, .ref o7, .ref o8])) :: (o1, zI Z 3770 (stF S F G)) :: (o2, zI Z 6 (qF pn 0)) :: (o3, zI Z 6 (qF pn 1)) :: (o4, zI Z 6 (qF pn 2)) :: (o5, zI Z 6 (qF pn 3)) :: (o6, zI Z 6 E) :: (o7, zI Z 29 Tk) :: (o8, zI Z 29 Lf) :: (ou, zL Z 1 ov1) :: (x, .inr (4, [.ref st, .ref pa, .int (nI np), .int dy, .int me, .int co, .int ca, .int br, .int ml, .ref sp, .ref se])) :: (st, .inr (2, [.ref sb])) :: (sb, zI Z 290 S) :: (pa, zQ Z 6 (pav ad np)) :: (sp, .inr (3, [.ref spb, .int fp])) :: (spb, zI Z 6 L) :: (se, .inr (1, [.ref sl, .ref sk])) :: (sl, zI Z 29 lf) :: (sk, zI Z 29 tk) :: zpool np (pcs Z ad F G pn)) _ _ := hW
    subst h_954
    refine zw_topi (y := (nI 0)) (rfl) ?_
    refine lv_iload hx hb dL_law_957 (lv_at hl 1 rfl) ?_
    refine zn_icmp_eq (tgt := 964) (a := 0) (b := 0) hx hb (by omega) (by omega) dL_law_959 (by decide) (fun c_959 => ?_) (fun c_959 => absurd rfl c_959)
    refine lv_iload hx hb dL_law_964 (lv_at hl 1 rfl) ?_
    refine zn_if_ne (tgt := 981) (a := 0) hx hb (by omega) dL_law_966 (by decide) (fun c_966 => absurd c_966 (by omega)) (fun c_966 => ?_)
    refine lv_aload_n hx hb dL_law_969 rfl (lv_at hl 5 rfl) ?_
    refine lv_iconst (v := nI 0) hx hb dL_law_970 (by decide) ?_
    refine z_lald hx hb hX hW 9 rfl (k := 0) (by omega) (by omega) dL_law_971 ?_
    refine zw_topl (y := R9.toInt64) (hov) ?_
    refine lv_iload hx hb dL_law_972 (lv_at hl 0 rfl) ?_
    refine lv_i2l (v := R9.toInt64) hx hb dL_law_974 rfl ?_
    refine W.lcmp hx hb dL_law_975 ?_
    refine zw_topi (y := (nI 0)) (lg_self _) ?_
    refine zn_if_eq (tgt := 981) (a := 0) hx hb (by omega) dL_law_976 (by decide) (fun c_976 => ?_) (fun c_976 => absurd rfl c_976)
    refine lv_goto (tgt := 1423) hx hb dL_law_981 (by decide) ?_
    refine W.widen (k := cells + 60) (n := slots + 700) (by omega) (by omega) ?_
    exact K _ _ _ ⟨(nI 0), dy, me, co, ca, br, ml, le, fp, np, S, E, Tk, Lf, L, lf, tk, F, G, pn, ad, ov1, hnp, gi_same hGI, hW⟩ (lv_sub hl [2, 3, 4, 5, 6] rfl)
  · have hw9 : w9 = _ := hw9
    subst hw9
    subst hr9
    have hk3 : k9 ≤ 3 := by rw [hk2]; exact cdx_le _ _ _
    have hW : zW Z s A ((o0, .inr (5, [.int th, .int dy, .int me, .int co, .int (nI np), .int ca, .int br, .int ml, .ref o1, .ref o2, .ref o3, .ref o4, .ref o5, .ref o6, .int le, .ref o7, .ref o8])) :: (o1, zI Z 3770 (stF S F G)) :: (o2, zI Z 6 (qF pn 0)) :: (o3, zI Z 6 (qF pn 1)) :: (o4, zI Z 6 (qF pn 2)) :: (o5, zI Z 6 (qF pn 3)) :: (o6, zI Z 6 E) :: (o7, zI Z 29 Tk) :: (o8, zI Z 29 Lf) :: (ou, zL Z 1 ov1) :: (x, .inr (4, [.ref st, .ref pa, .int (nI np), .int dy, .int me, .int co, .int ca, .int br, .int ml, .ref sp, .ref se])) :: (st, .inr (2, [.ref sb])) :: (sb, zI Z 290 S) :: (pa, zQ Z 6 (pav ad np)) :: (sp, .inr (3, [.ref spb, .int fp])) :: (spb, zI Z 6 L) :: (se, .inr (1, [.ref sl, .ref sk])) :: (sl, zI Z 29 lf) :: (sk, zI Z 29 tk) :: zpool np (pcs Z ad F G pn)) _ _ := hW
    refine lv_istore (lv' := [(5, .int (nI k9)), (0, .ref b), (1, .ref x), (2, .ref o0), (3, .ref ou), (4, .int (nI ii))]) hx hb dL_law_933 hl (by decide) rfl (fun ls hl => ?_)
    refine lv_aload_n hx hb dL_law_935 rfl (lv_at hl 3 rfl) ?_
    refine lv_aload_n hx hb dL_law_936 rfl (lv_at hl 1 rfl) ?_
    refine lv_iload hx hb dL_law_937 (lv_at hl 5 rfl) ?_
    refine lv_iconst (v := nI 1) hx hb dL_law_939 (by decide) ?_
    refine lv_iadd hx hb dL_law_940 ?_
    refine zw_topi (nI_add _ _) ?_
    refine z_sld hx hb hsc hbl hbA hLL hW (k := (ii + 1)) (by omega) dL_law_941 ?_
    refine lv_aload_n hx hb dL_law_942 rfl (lv_at hl 1 rfl) ?_
    refine lv_iload hx hb dL_law_943 (lv_at hl 5 rfl) ?_
    refine lv_iconst (v := nI 2) hx hb dL_law_945 (by decide) ?_
    refine lv_iadd hx hb dL_law_946 ?_
    refine zw_topi (nI_add _ _) ?_
    refine z_sld hx hb hsc hbl hbA hLL hW (k := (ii + 2)) (by omega) dL_law_947 ?_
    refine zc_i (va_runV (As := [.int (xs (ii + 1)), .int (xs (ii + 2))]) (rest := []) hC (c_X5_printer l Z o0 o1 o2 o3 o4 o5 o6 o7 o8 np th dy me co ca br ml le S E Tk Lf F G pn (xs (ii + 1)) (xs (ii + 2)) (gi_GA hGI (by omega)) hnp _) (cwV 2 hts gL_law_X5_printer rfl rfl rfl (by decide +kernel) ⟨Nat.le_of_ble_eq_true rfl, Nat.le_of_ble_eq_true rfl⟩) (zpreV (ci := 5) (q0 := 0) hX hW rfl rfl [0, 1, 2, 3, 4, 5, 6, 7, 8] rfl (by decide)) rfl rfl hl.1 rfl (lv_room (Nat.le_of_ble_eq_true rfl)) dL_law_948 ⟨by first | (show (_ : Nat) ≤ 601024; omega) | (show (_ : Nat) ≤ 7293034; omega), by first | (show (_ : Nat) ≤ 601024; omega) | (show (_ : Nat) ≤ 7293034; omega)⟩) hX hW [0, 1, 2, 3, 4, 5, 6, 7, 8] rfl (by decide) (fun _ => rfl) (fun r_948 u_948 H locs h_948 hW => ?_)
    obtain ⟨th_1_948, rfl⟩ : ∃ z, z = u_948 := ⟨_, rfl⟩
    have hW : zW Z s A ((o0, .inr (5, [.int th_1_948, .int dy, .int me, .int co, .int (nI np), .int ca, .int br, .int ml, .ref o1, .ref o2, .ref o3, .ref o4, .ref o5, .ref o6, .int le, .ref o7, .ref o8])) :: (o1, zI Z 3770 (stF S F G)) :: (o2, zI Z 6 (qF pn 0)) :: (o3, zI Z 6 (qF pn 1)) :: (o4, zI Z 6 (qF pn 2)) :: (o5, zI Z 6 (qF pn 3)) :: (o6, zI Z 6 E) :: (o7, zI Z 29 Tk) :: (o8, zI Z 29 Lf) :: (ou, zL Z 1 ov1) :: (x, .inr (4, [.ref st, .ref pa, .int (nI np), .int dy, .int me, .int co, .int ca, .int br, .int ml, .ref sp, .ref se])) :: (st, .inr (2, [.ref sb])) :: (sb, zI Z 290 S) :: (pa, zQ Z 6 (pav ad np)) :: (sp, .inr (3, [.ref spb, .int fp])) :: (spb, zI Z 6 L) :: (se, .inr (1, [.ref sl, .ref sk])) :: (sl, zI Z 29 lf) :: (sk, zI Z 29 tk) :: zpool np (pcs Z ad F G pn)) _ _ := hW
    rcases h_948 with ⟨e_th, hz2, hr2⟩ | ⟨k8, hj1, hj2, e_th⟩
    · exact absurd hz2 (by omega)
    obtain rfl : k8 = k9 := by omega
    replace e_th := e_th.symm
    subst e_th
    have hW : zW Z s A ((o0, .inr (5, [.int (nI k8), .int dy, .int me, .int co, .int (nI np), .int ca, .int br, .int ml, .ref o1, .ref o2, .ref o3, .ref o4, .ref o5, .ref o6, .int le, .ref o7, .ref o8])) :: (o1, zI Z 3770 (stF S F G)) :: (o2, zI Z 6 (qF pn 0)) :: (o3, zI Z 6 (qF pn 1)) :: (o4, zI Z 6 (qF pn 2)) :: (o5, zI Z 6 (qF pn 3)) :: (o6, zI Z 6 E) :: (o7, zI Z 29 Tk) :: (o8, zI Z 29 Lf) :: (ou, zL Z 1 ov1) :: (x, .inr (4, [.ref st, .ref pa, .int (nI np), .int dy, .int me, .int co, .int ca, .int br, .int ml, .ref sp, .ref se])) :: (st, .inr (2, [.ref sb])) :: (sb, zI Z 290 S) :: (pa, zQ Z 6 (pav ad np)) :: (sp, .inr (3, [.ref spb, .int fp])) :: (spb, zI Z 6 L) :: (se, .inr (1, [.ref sl, .ref sk])) :: (sl, zI Z 29 lf) :: (sk, zI Z 29 tk) :: zpool np (pcs Z ad F G pn)) _ _ := hW
    refine lv_istore (lv' := [(6, .int r_948), (5, .int (nI k8)), (0, .ref b), (1, .ref x), (2, .ref o0), (3, .ref ou), (4, .int (nI ii))]) hx hb dL_law_951 hl (by decide) rfl (fun ls hl => ?_)
    refine lv_aload_n hx hb dL_law_953 rfl (lv_at hl 4 rfl) ?_
    refine zc_i (va_runV (As := []) (rest := []) hC (c_X5_thrown l Z o0 o1 o2 o3 o4 o5 o6 o7 o8 np (nI k8) dy me co ca br ml le  _) (cwV 0 hts gL_law_X5_thrown rfl rfl rfl (by decide +kernel) ⟨Nat.le_of_ble_eq_true rfl, Nat.le_of_ble_eq_true rfl⟩) (zpreV (ci := 5) (q0 := 0) hX hW rfl rfl [0] rfl (by decide)) rfl rfl hl.1 rfl (lv_room (Nat.le_of_ble_eq_true rfl)) dL_law_954 ⟨by first | (show (_ : Nat) ≤ 601024; omega) | (show (_ : Nat) ≤ 7293034; omega), by first | (show (_ : Nat) ≤ 601024; omega) | (show (_ : Nat) ≤ 7293034; omega)⟩) hX hW [0] rfl (by decide) (fun _ => rfl) (fun r_954 u_954 H locs h_954 hW => ?_)
    have hW : zW Z s A ((o0, .inr (5, [.int (nI k8), .int dy, .int me, .int co, .int (nI np), .int ca, .int br, .int ml, .ref o1, .ref o2, .ref o3, .ref o4, .ref o5, .ref o6, .int le, .ref o7, .ref o8])) :: (o1, zI Z 3770 (stF S F G)) :: (o2, zI Z 6 (qF pn 0)) :: (o3, zI Z 6 (qF pn 1)) :: (o4, zI Z 6 (qF pn 2)) :: (o5, zI Z 6 (qF pn 3)) :: (o6, zI Z 6 E) :: (o7, zI Z 29 Tk) :: (o8, zI Z 29 Lf) :: (ou, zL Z 1 ov1) :: (x, .inr (4, [.ref st, .ref pa, .int (nI np), .int dy, .int me, .int co, .int ca, .int br, .int ml, .ref sp, .ref se])) :: (st, .inr (2, [.ref sb])) :: (sb, zI Z 290 S) :: (pa, zQ Z 6 (pav ad np)) :: (sp, .inr (3, [.ref spb, .int fp])) :: (spb, zI Z 6 L) :: (se, .inr (1, [.ref sl, .ref sk])) :: (sl, zI Z 29 lf) :: (sk, zI Z 29 tk) :: zpool np (pcs Z ad F G pn)) _ _ := hW
    subst h_954
    refine zw_topi (y := (nI k8)) (rfl) ?_
    refine lv_iload hx hb dL_law_957 (lv_at hl 1 rfl) ?_
    refine zn_icmp_eq (tgt := 964) (a := k8) (b := k8) hx hb (by omega) (by omega) dL_law_959 (by decide) (fun c_959 => ?_) (fun c_959 => absurd rfl c_959)
    refine lv_iload hx hb dL_law_964 (lv_at hl 1 rfl) ?_
    refine zn_if_ne (tgt := 981) (a := k8) hx hb (by omega) dL_law_966 (by decide) (fun c_966 => ?_) (fun c_966 => (absurd c_966 (by omega) : False).elim)
    refine lv_goto (tgt := 1423) hx hb dL_law_981 (by decide) ?_
    refine W.widen (k := cells + 60) (n := slots + 700) (by omega) (by omega) ?_
    exact K _ _ _ ⟨(nI k8), dy, me, co, ca, br, ml, le, fp, np, S, E, Tk, Lf, L, lf, tk, F, G, pn, ad, ov1, hnp, gi_same hGI, hW⟩ (lv_sub hl [2, 3, 4, 5, 6] rfl)
