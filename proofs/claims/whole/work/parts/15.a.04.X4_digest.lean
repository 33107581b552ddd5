theorem mw_X4_digest_0 : Cond.constantLong RX4 213 (751) ∈ wsX4_digest := by decide +kernel
theorem mw_X4_digest_1 : Cond.fieldLink RX4 10 "TypeFoundry" "stock" "LTypeFoundry$Sorts;" ∈ wsX4_digest := by decide +kernel
theorem mw_X4_digest_2 : ∀ w ∈ wsX40, w ∈ wsX4_digest := by decide +kernel
theorem mw_X4_digest_3 : Cond.fieldLink RX4 18 "TypeFoundry" "printers" "[LTypeFoundry$Printer;" ∈ wsX4_digest := by decide +kernel
theorem mw_X4_digest_4 : ∀ w ∈ wsX00, w ∈ wsX4_digest := by decide +kernel
theorem mw_X4_digest_5 : Cond.constantLong RX4 215 (31) ∈ wsX4_digest := by decide +kernel
abbrev wp_X4_digest (Z : zT) (x st sb pa sp spb se sl sk np : Nat) (S : Nat → Int32) (dy me co ca br ml fp : Int32) (L lf tk : Nat → Int32) (ad : Nat → Nat → Nat) (F G pn : Nat → Nat → Int32) : Unit → va_W := fun (u : Unit) => ((x, .inr (4, [.ref st, .ref pa, .int (nI np), .int dy, .int me, .int co, .int ca, .int br, .int ml, .ref sp, .ref se])) :: (st, .inr (2, [.ref sb])) :: (sb, zI Z 290 S) :: (pa, zQ Z 6 (pav ad np)) :: (sp, .inr (3, [.ref spb, .int fp])) :: (spb, zI Z 6 L) :: (se, .inr (1, [.ref sl, .ref sk])) :: (sl, zI Z 29 lf) :: (sk, zI Z 29 tk) :: zpool np (pcs Z ad F G pn))
abbrev po_X4_digest (Z : zT) (x st sb pa sp spb se sl sk np : Nat) (S : Nat → Int32) (dy me co ca br ml fp : Int32) (L lf tk : Nat → Int32) (ad : Nat → Nat → Nat) (F G pn : Nat → Nat → Int32) : Int64 → Unit → Prop := fun (r : Int64) (u : Unit) => r = d3S (d2S (dg (d1S dy me co S np ca br ml 8) S 290) F np) F G pn np
abbrev rm_X4_digest : Room := { frames := 3, cells := 0, slots := 0, locals := 68 }
set_option maxHeartbeats 4000000 in
set_option maxRecDepth 100000 in
theorem c_X4_digest (l : Launch) (Z : zT) (x st sb pa sp spb se sl sk np : Nat) (S : Nat → Int32) (dy me co ca br ml fp : Int32) (L lf tk : Nat → Int32) (ad : Nat → Nat → Nat) (F G pn : Nat → Nat → Int32) (hnp : np ≤ 6) : zMet l yX4_digest wsX4_digest rm_X4_digest [.ref x] Z ((x, .inr (4, [.ref st, .ref pa, .int (nI np), .int dy, .int me, .int co, .int ca, .int br, .int ml, .ref sp, .ref se])) :: (st, .inr (2, [.ref sb])) :: (sb, zI Z 290 S) :: (pa, zQ Z 6 (pav ad np)) :: (sp, .inr (3, [.ref spb, .int fp])) :: (spb, zI Z 6 L) :: (se, .inr (1, [.ref sl, .ref sk])) :: (sl, zI Z 29 lf) :: (sk, zI Z 29 tk) :: zpool np (pcs Z ad F G pn)) (zQl Z (po_X4_digest Z x st sb pa sp spb se sl sk np S dy me co ca br ml fp L lf tk ad F G pn) (wp_X4_digest Z x st sb pa sp spb se sl sk np S dy me co ca br ml fp L lf tk ad F G pn)) 0 0 := by
  refine zstart (cc := cX4_digest) (maxL := 5) (ret := (some .long)) (by decide) rfl (Nat.le_of_ble_eq_true rfl) ?_
  intro p e s m below meth c ls A hx hb hr hC hlk hnm hX hW hl
  have hml := hC.2.2.1
  have hown : s.vm.findClass RX4 = some m.cls := hC.2.2.2.1
  have hts := hC.2.2.2.2
  have hl : lv_has ls 5 [(0, .ref x)] := hl
  refine lv_ldc2 (own := RX4) (v := 751) hx hb hown (hts _ mw_X4_digest_0) dX4_digest_0 ?_
  refine lv_lstore_n (lv' := [(1, .long 751), (0, .ref x)]) hx hb dX4_digest_3 rfl hl (by decide) rfl (fun ls hl => ?_)
  refine lv_iconst (v := nI 0) hx hb dX4_digest_4 (by decide) ?_
  refine lv_istore_n (lv' := [(3, .int (nI 0)), (1, .long 751), (0, .ref x)]) hx hb dX4_digest_5 rfl hl (by decide) rfl (fun ls hl => ?_)
  have loop_6 : ∀ (n : Nat) (i : Nat), (i ≤ 8) → (8 - i < n) → ∀ (H : Heap) (locs : List Loc) (ls : Array Slot), zW Z s A ((x, .inr (4, [.ref st, .ref pa, .int (nI np), .int dy, .int me, .int co, .int ca, .int br, .int ml, .ref sp, .ref se])) :: (st, .inr (2, [.ref sb])) :: (sb, zI Z 290 S) :: (pa, zQ Z 6 (pav ad np)) :: (sp, .inr (3, [.ref spb, .int fp])) :: (spb, zI Z 6 L) :: (se, .inr (1, [.ref sl, .ref sk])) :: (sl, zI Z 29 lf) :: (sk, zI Z 29 tk) :: zpool np (pcs Z ad F G pn)) H locs → lv_has ls 5 [(3, .int (nI i)), (1, .long (d1S dy me co S np ca br ml i)), (0, .ref x)] → W p l e rm_X4_digest s m ([.ref x] : List Value).toArray below meth c H locs 0 0 (MQ below (zQl Z (po_X4_digest Z x st sb pa sp spb se sl sk np S dy me co ca br ml fp L lf tk ad F G pn) (wp_X4_digest Z x st sb pa sp spb se sl sk np S dy me co ca br ml fp L lf tk ad F G pn) A) ([.ref x] : List Value).toArray s 0 0 A) (F0 m 6 ls []) := by
    intro n
    induction n with
    | zero =>
      intro i hi hm
      exact absurd hm (Nat.not_lt_zero _)
    | succ n ih =>
      intro i hi hm H locs ls hW hl
      have ih_6 := ih
      refine lv_iload_n hx hb dX4_digest_6 rfl (lv_at hl 0 rfl) ?_
      refine lv_bipush (v := nI 8) hx hb dX4_digest_7 (by decide) ?_
      refine zn_icmp_ge (tgt := 31) (a := i) (b := 8) hx hb (by omega) (by omega) dX4_digest_9 (by decide) (fun c_9 => ?_) (fun c_9 => ?_)
      · refine lv_aload_n hx hb dX4_digest_31 rfl (lv_at hl 2 rfl) ?_
        refine z_get (C := RX4) (T := TX4) (N := 11) hx hb hts mw_X4_digest_2 hown hX hW 0 rfl rfl 0 (by decide) mw_X4_digest_1 (fun _ h9 => h9) rfl dX4_digest_32 ?_
        refine lv_lload_n hx hb dX4_digest_35 rfl (lv_at hl 1 rfl) ?_
        refine zc_l (va_runV (As := [.long (d1S dy me co S np ca br ml i)]) (rest := []) hC (c_X2_digestOnto l Z st sb S (d1S dy me co S np ca br ml i)  _) (cwV 1 hts gX4_digest_X2_digestOnto rfl rfl rfl (by decide +kernel) ⟨Nat.le_of_ble_eq_true rfl, Nat.le_of_ble_eq_true rfl⟩) (zpreV (ci := 2) (q0 := 1) hX hW rfl rfl [1, 2] rfl (by decide)) rfl rfl hl.1 rfl (lv_room (Nat.le_of_ble_eq_true rfl)) dX4_digest_36 ⟨Nat.le_of_ble_eq_true rfl, Nat.le_of_ble_eq_true rfl⟩) hX hW [1, 2] rfl (by decide) (fun _ => rfl) (fun r_36 u_36 H locs h_36 hW => ?_)
        have hW : zW Z s A ((x, .inr (4, [.ref st, .ref pa, .int (nI np), .int dy, .int me, .int co, .int ca, .int br, .int ml, .ref sp, .ref se])) :: (st, .inr (2, [.ref sb])) :: (sb, zI Z 290 S) :: (pa, zQ Z 6 (pav ad np)) :: (sp, .inr (3, [.ref spb, .int fp])) :: (spb, zI Z 6 L) :: (se, .inr (1, [.ref sl, .ref sk])) :: (sl, zI Z 29 lf) :: (sk, zI Z 29 tk) :: zpool np (pcs Z ad F G pn)) _ _ := hW
        subst h_36
        refine lv_lstore_n (lv' := [(1, .long (dg (d1S dy me co S np ca br ml i) S 290)), (3, .int (nI i)), (0, .ref x)]) hx hb dX4_digest_39 rfl hl (by decide) rfl (fun ls hl => ?_)
        refine lv_iconst (v := nI 0) hx hb dX4_digest_40 (by decide) ?_
        refine lv_istore_n (lv' := [(3, .int (nI 0)), (1, .long (dg (d1S dy me co S np ca br ml i) S 290)), (0, .ref x)]) hx hb dX4_digest_41 rfl hl (by decide) rfl (fun ls hl => ?_)
        have loop_42 : ∀ (n : Nat) (j : Nat) (y : Int64), (j ≤ 6) → (y = d2S (dg (d1S dy me co S np ca br ml 8) S 290) F (min j np)) → (6 - j < n) → ∀ (H : Heap) (locs : List Loc) (ls : Array Slot), zW Z s A ((x, .inr (4, [.ref st, .ref pa, .int (nI np), .int dy, .int me, .int co, .int ca, .int br, .int ml, .ref sp, .ref se])) :: (st, .inr (2, [.ref sb])) :: (sb, zI Z 290 S) :: (pa, zQ Z 6 (pav ad np)) :: (sp, .inr (3, [.ref spb, .int fp])) :: (spb, zI Z 6 L) :: (se, .inr (1, [.ref sl, .ref sk])) :: (sl, zI Z 29 lf) :: (sk, zI Z 29 tk) :: zpool np (pcs Z ad F G pn)) H locs → lv_has ls 5 [(3, .int (nI j)), (1, .long y), (0, .ref x)] → W p l e rm_X4_digest s m ([.ref x] : List Value).toArray below meth c H locs 0 0 (MQ below (zQl Z (po_X4_digest Z x st sb pa sp spb se sl sk np S dy me co ca br ml fp L lf tk ad F G pn) (wp_X4_digest Z x st sb pa sp spb se sl sk np S dy me co ca br ml fp L lf tk ad F G pn) A) ([.ref x] : List Value).toArray s 0 0 A) (F0 m 42 ls []) := by
          intro n
          induction n with
          | zero =>
            intro j y hj hy9 hm
            exact absurd hm (Nat.not_lt_zero _)
          | succ n ih =>
            intro j y hj hy9 hm H locs ls hW hl
            have ih_42 := ih
            refine lv_iload_n hx hb dX4_digest_42 rfl (lv_at hl 0 rfl) ?_
            refine lv_aload_n hx hb dX4_digest_43 rfl (lv_at hl 2 rfl) ?_
            refine z_get (C := RX4) (T := TX4) (N := 11) hx hb hts mw_X4_digest_2 hown hX hW 0 rfl rfl 1 (by decide) mw_X4_digest_3 (fun _ h9 => h9) rfl dX4_digest_44 ?_
            refine z_alenq hx hb hX hW 3 rfl dX4_digest_47 ?_
            refine zn_icmp_ge (tgt := 80) (a := j) (b := 6) hx hb (by omega) (by omega) dX4_digest_48 (by decide) (fun c_48 => ?_) (fun c_48 => ?_)
            · refine lv_iconst (v := nI 0) hx hb dX4_digest_80 (by decide) ?_
              refine lv_istore_n (lv' := [(3, .int (nI 0)), (1, .long y), (0, .ref x)]) hx hb dX4_digest_81 rfl hl (by decide) rfl (fun ls hl => ?_)
              have loop_82 : ∀ (n : Nat) (k : Nat) (z : Int64), (k ≤ 6) → (z = d3S (d2S (dg (d1S dy me co S np ca br ml 8) S 290) F np) F G pn (min k np)) → (6 - k < n) → ∀ (H : Heap) (locs : List Loc) (ls : Array Slot), zW Z s A ((x, .inr (4, [.ref st, .ref pa, .int (nI np), .int dy, .int me, .int co, .int ca, .int br, .int ml, .ref sp, .ref se])) :: (st, .inr (2, [.ref sb])) :: (sb, zI Z 290 S) :: (pa, zQ Z 6 (pav ad np)) :: (sp, .inr (3, [.ref spb, .int fp])) :: (spb, zI Z 6 L) :: (se, .inr (1, [.ref sl, .ref sk])) :: (sl, zI Z 29 lf) :: (sk, zI Z 29 tk) :: zpool np (pcs Z ad F G pn)) H locs → lv_has ls 5 [(3, .int (nI k)), (1, .long z), (0, .ref x)] → W p l e rm_X4_digest s m ([.ref x] : List Value).toArray below meth c H locs 0 0 (MQ below (zQl Z (po_X4_digest Z x st sb pa sp spb se sl sk np S dy me co ca br ml fp L lf tk ad F G pn) (wp_X4_digest Z x st sb pa sp spb se sl sk np S dy me co ca br ml fp L lf tk ad F G pn) A) ([.ref x] : List Value).toArray s 0 0 A) (F0 m 82 ls []) := by
                intro n
                induction n with
                | zero =>
                  intro k z hk hz9 hm
                  exact absurd hm (Nat.not_lt_zero _)
                | succ n ih =>
                  intro k z hk hz9 hm H locs ls hW hl
                  have ih_82 := ih
                  refine lv_iload_n hx hb dX4_digest_82 rfl (lv_at hl 0 rfl) ?_
                  refine lv_aload_n hx hb dX4_digest_83 rfl (lv_at hl 2 rfl) ?_
                  refine z_get (C := RX4) (T := TX4) (N := 11) hx hb hts mw_X4_digest_2 hown hX hW 0 rfl rfl 1 (by decide) mw_X4_digest_3 (fun _ h9 => h9) rfl dX4_digest_84 ?_
                  refine z_alenq hx hb hX hW 3 rfl dX4_digest_87 ?_
                  refine zn_icmp_ge (tgt := 117) (a := k) (b := 6) hx hb (by omega) (by omega) dX4_digest_88 (by decide) (fun c_88 => ?_) (fun c_88 => ?_)
                  · refine lv_lload_n hx hb dX4_digest_117 rfl (lv_at hl 1 rfl) ?_
                    exact z_lret hx hb hr hlk hW () (by rw [hz9, show min k np = np by omega]) (rfl) (by omega) (by omega) dX4_digest_118
                  · refine lv_aload_n hx hb dX4_digest_91 rfl (lv_at hl 2 rfl) ?_
                    refine z_get (C := RX4) (T := TX4) (N := 11) hx hb hts mw_X4_digest_2 hown hX hW 0 rfl rfl 1 (by decide) mw_X4_digest_3 (fun _ h9 => h9) rfl dX4_digest_92 ?_
                    refine lv_iload_n hx hb dX4_digest_95 rfl (lv_at hl 0 rfl) ?_
                    refine z_aldq hx hb hX hW 3 rfl (k := k) (by omega) (by omega) dX4_digest_96 ?_
                    rcases Nat.lt_or_ge k np with hz | hz
                    · refine zw_topq (pav_s hz) ?_
                      have hW := zW_perm hW (zp_out (Z := Z) [(x, .inr (4, [.ref st, .ref pa, .int (nI np), .int dy, .int me, .int co, .int ca, .int br, .int ml, .ref sp, .ref se])), (st, .inr (2, [.ref sb])), (sb, zI Z 290 S), (pa, zQ Z 6 (pav ad np)), (sp, .inr (3, [.ref spb, .int fp])), (spb, zI Z 6 L), (se, .inr (1, [.ref sl, .ref sk])), (sl, zI Z 29 lf), (sk, zI Z 29 tk)] hz)
                      have hW : zW Z s A ((x, .inr (4, [.ref st, .ref pa, .int (nI np), .int dy, .int me, .int co, .int ca, .int br, .int ml, .ref sp, .ref se])) :: (st, .inr (2, [.ref sb])) :: (sb, zI Z 290 S) :: (pa, zQ Z 6 (pav ad np)) :: (sp, .inr (3, [.ref spb, .int fp])) :: (spb, zI Z 6 L) :: (se, .inr (1, [.ref sl, .ref sk])) :: (sl, zI Z 29 lf) :: (sk, zI Z 29 tk) :: (ad k 0, .inr (0, [.ref (ad k 1), .ref (ad k 3), .int (pn k 0), .int (pn k 1), .int (pn k 2), .int (pn k 3)])) :: (ad k 1, .inr (2, [.ref (ad k 2)])) :: (ad k 2, zI Z 290 (F k)) :: (ad k 3, .inr (2, [.ref (ad k 4)])) :: (ad k 4, zI Z 290 (G k)) :: zrest k np (pcs Z ad F G pn)) _ _ := hW
                      refine lv_astore (lv' := [(4, .ref (ad k 0)), (3, .int (nI k)), (1, .long z), (0, .ref x)]) hx hb dX4_digest_97 hl (by decide) rfl (fun ls hl => ?_)
                      refine lv_aload hx hb dX4_digest_99 (lv_at hl 0 rfl) ?_
                      refine lv_ifnull hx hb dX4_digest_101 ?_
                      refine lv_aload hx hb dX4_digest_104 (lv_at hl 0 rfl) ?_
                      refine lv_lload_n hx hb dX4_digest_106 rfl (lv_at hl 2 rfl) ?_
                      refine zc_l (va_runV (As := [.long z]) (rest := []) hC (c_X0_digestOnto l Z (ad k 0) (ad k 1) (ad k 2) (ad k 3) (ad k 4) (F k) (G k) (pn k 0) (pn k 1) (pn k 2) (pn k 3) z  _) (cwV 1 hts gX4_digest_X0_digestOnto rfl rfl rfl (by decide +kernel) ⟨Nat.le_of_ble_eq_true rfl, Nat.le_of_ble_eq_true rfl⟩) (zpreV (ci := 0) (q0 := 9) hX hW rfl rfl [9, 10, 11, 12, 13] rfl (by decide)) rfl rfl hl.1 rfl (lv_room (Nat.le_of_ble_eq_true rfl)) dX4_digest_107 ⟨Nat.le_of_ble_eq_true rfl, Nat.le_of_ble_eq_true rfl⟩) hX hW [9, 10, 11, 12, 13] rfl (by decide) (fun _ => rfl) (fun r_107 u_107 H locs h_107 hW => ?_)
                      have hW : zW Z s A ((x, .inr (4, [.ref st, .ref pa, .int (nI np), .int dy, .int me, .int co, .int ca, .int br, .int ml, .ref sp, .ref se])) :: (st, .inr (2, [.ref sb])) :: (sb, zI Z 290 S) :: (pa, zQ Z 6 (pav ad np)) :: (sp, .inr (3, [.ref spb, .int fp])) :: (spb, zI Z 6 L) :: (se, .inr (1, [.ref sl, .ref sk])) :: (sl, zI Z 29 lf) :: (sk, zI Z 29 tk) :: (ad k 0, .inr (0, [.ref (ad k 1), .ref (ad k 3), .int (pn k 0), .int (pn k 1), .int (pn k 2), .int (pn k 3)])) :: (ad k 1, .inr (2, [.ref (ad k 2)])) :: (ad k 2, zI Z 290 (F k)) :: (ad k 3, .inr (2, [.ref (ad k 4)])) :: (ad k 4, zI Z 290 (G k)) :: zrest k np (pcs Z ad F G pn)) _ _ := hW
                      subst h_107
                      refine lv_lstore_n (lv' := [(1, .long (pdg z (F k) (G k) (q4 (pn k 0) (pn k 1) (pn k 2) (pn k 3)) 7)), (4, .ref (ad k 0)), (3, .int (nI k)), (0, .ref x)]) hx hb dX4_digest_110 rfl hl (by decide) rfl (fun ls hl => ?_)
                      have hW := zW_perm hW (zp_same (Z := Z) [(x, .inr (4, [.ref st, .ref pa, .int (nI np), .int dy, .int me, .int co, .int ca, .int br, .int ml, .ref sp, .ref se])), (st, .inr (2, [.ref sb])), (sb, zI Z 290 S), (pa, zQ Z 6 (pav ad np)), (sp, .inr (3, [.ref spb, .int fp])), (spb, zI Z 6 L), (se, .inr (1, [.ref sl, .ref sk])), (sl, zI Z 29 lf), (sk, zI Z 29 tk)] hz)
                      have hW : zW Z s A ((x, .inr (4, [.ref st, .ref pa, .int (nI np), .int dy, .int me, .int co, .int ca, .int br, .int ml, .ref sp, .ref se])) :: (st, .inr (2, [.ref sb])) :: (sb, zI Z 290 S) :: (pa, zQ Z 6 (pav ad np)) :: (sp, .inr (3, [.ref spb, .int fp])) :: (spb, zI Z 6 L) :: (se, .inr (1, [.ref sl, .ref sk])) :: (sl, zI Z 29 lf) :: (sk, zI Z 29 tk) :: zpool np (pcs Z ad F G pn)) _ _ := hW
                      refine lv_iinc (v := nI (k + 1)) (lv' := [(3, .int (nI (k + 1))), (1, .long (pdg z (F k) (G k) (q4 (pn k 0) (pn k 1) (pn k 2) (pn k 3)) 7)), (4, .ref (ad k 0)), (0, .ref x)]) hx hb dX4_digest_111 hl (k := 2) rfl (zinc1 _) (by decide) rfl (fun ls hl => ?_)
                      refine lv_goto (tgt := 82) hx hb dX4_digest_114 (by decide) ?_
                      have hl : lv_has ls 5 [(3, .int (nI (k + 1))), (1, .long (pdg z (F k) (G k) (q4 (pn k 0) (pn k 1) (pn k 2) (pn k 3)) 7)), (0, .ref x)] := lv_sub hl [0, 1, 3] rfl
                      exact ih_82 (k + 1) (pdg z (F k) (G k) (q4 (pn k 0) (pn k 1) (pn k 2) (pn k 3)) 7) (by omega) (by subst hz9; first | rw [d3S_lt hz] | rw [d3S_ge hz]) (by omega) _ _ _ hW hl
                    · refine zw_topn (pav_n (by omega)) ?_
                      refine lv_astoreN (lv' := [(4, .null), (3, .int (nI k)), (1, .long z), (0, .ref x)]) hx hb dX4_digest_97 hl (by decide) rfl (fun ls hl => ?_)
                      refine lv_aloadN hx hb dX4_digest_99 (lv_at hl 0 rfl) ?_
                      refine lv_ifnullN (tgt := 111) hx hb dX4_digest_101 (by decide) ?_
                      refine lv_iinc (v := nI (k + 1)) (lv' := [(3, .int (nI (k + 1))), (4, .null), (1, .long z), (0, .ref x)]) hx hb dX4_digest_111 hl (k := 1) rfl (zinc1 _) (by decide) rfl (fun ls hl => ?_)
                      refine lv_goto (tgt := 82) hx hb dX4_digest_114 (by decide) ?_
                      have hl : lv_has ls 5 [(3, .int (nI (k + 1))), (1, .long z), (0, .ref x)] := lv_sub hl [0, 2, 3] rfl
                      exact ih_82 (k + 1) z (by omega) (by subst hz9; first | rw [d3S_lt hz] | rw [d3S_ge hz]) (by omega) _ _ _ hW hl
              have hl : lv_has ls 5 [(3, .int (nI 0)), (1, .long y), (0, .ref x)] := lv_sub hl [0, 1, 2] rfl
              exact loop_82 _ 0 y (by omega) (by rw [hy9, show min j np = np by omega, show min 0 np = 0 by omega]; rfl) (Nat.lt_succ_self _) _ _ _ hW hl
            · refine lv_aload_n hx hb dX4_digest_51 rfl (lv_at hl 2 rfl) ?_
              refine z_get (C := RX4) (T := TX4) (N := 11) hx hb hts mw_X4_digest_2 hown hX hW 0 rfl rfl 1 (by decide) mw_X4_digest_3 (fun _ h9 => h9) rfl dX4_digest_52 ?_
              refine lv_iload_n hx hb dX4_digest_55 rfl (lv_at hl 0 rfl) ?_
              refine z_aldq hx hb hX hW 3 rfl (k := j) (by omega) (by omega) dX4_digest_56 ?_
              rcases Nat.lt_or_ge j np with hz | hz
              · refine zw_topq (pav_s hz) ?_
                have hW := zW_perm hW (zp_out (Z := Z) [(x, .inr (4, [.ref st, .ref pa, .int (nI np), .int dy, .int me, .int co, .int ca, .int br, .int ml, .ref sp, .ref se])), (st, .inr (2, [.ref sb])), (sb, zI Z 290 S), (pa, zQ Z 6 (pav ad np)), (sp, .inr (3, [.ref spb, .int fp])), (spb, zI Z 6 L), (se, .inr (1, [.ref sl, .ref sk])), (sl, zI Z 29 lf), (sk, zI Z 29 tk)] hz)
                have hW : zW Z s A ((x, .inr (4, [.ref st, .ref pa, .int (nI np), .int dy, .int me, .int co, .int ca, .int br, .int ml, .ref sp, .ref se])) :: (st, .inr (2, [.ref sb])) :: (sb, zI Z 290 S) :: (pa, zQ Z 6 (pav ad np)) :: (sp, .inr (3, [.ref spb, .int fp])) :: (spb, zI Z 6 L) :: (se, .inr (1, [.ref sl, .ref sk])) :: (sl, zI Z 29 lf) :: (sk, zI Z 29 tk) :: (ad j 0, .inr (0, [.ref (ad j 1), .ref (ad j 3), .int (pn j 0), .int (pn j 1), .int (pn j 2), .int (pn j 3)])) :: (ad j 1, .inr (2, [.ref (ad j 2)])) :: (ad j 2, zI Z 290 (F j)) :: (ad j 3, .inr (2, [.ref (ad j 4)])) :: (ad j 4, zI Z 290 (G j)) :: zrest j np (pcs Z ad F G pn)) _ _ := hW
                refine lv_astore (lv' := [(4, .ref (ad j 0)), (3, .int (nI j)), (1, .long y), (0, .ref x)]) hx hb dX4_digest_57 hl (by decide) rfl (fun ls hl => ?_)
                refine lv_aload hx hb dX4_digest_59 (lv_at hl 0 rfl) ?_
                refine lv_ifnull hx hb dX4_digest_61 ?_
                refine lv_aload hx hb dX4_digest_64 (lv_at hl 0 rfl) ?_
                refine z_getN (C := RX0) (T := TX0) (N := 6) (host := RX4) hx hb hts mw_X4_digest_4 hown hX hW 9 rfl rfl 0 (by decide) (by decide +kernel) (fun _ h9 => h9) rfl dX4_digest_66 ?_
                refine lv_lload_n hx hb dX4_digest_69 rfl (lv_at hl 2 rfl) ?_
                refine zc_l (va_runV (As := [.long y]) (rest := []) hC (c_X2_digestOnto l Z (ad j 1) (ad j 2) (F j) y  _) (cwV 1 hts gX4_digest_X2_digestOnto rfl rfl rfl (by decide +kernel) ⟨Nat.le_of_ble_eq_true rfl, Nat.le_of_ble_eq_true rfl⟩) (zpreV (ci := 2) (q0 := 10) hX hW rfl rfl [10, 11] rfl (by decide)) rfl rfl hl.1 rfl (lv_room (Nat.le_of_ble_eq_true rfl)) dX4_digest_70 ⟨Nat.le_of_ble_eq_true rfl, Nat.le_of_ble_eq_true rfl⟩) hX hW [10, 11] rfl (by decide) (fun _ => rfl) (fun r_70 u_70 H locs h_70 hW => ?_)
                have hW : zW Z s A ((x, .inr (4, [.ref st, .ref pa, .int (nI np), .int dy, .int me, .int co, .int ca, .int br, .int ml, .ref sp, .ref se])) :: (st, .inr (2, [.ref sb])) :: (sb, zI Z 290 S) :: (pa, zQ Z 6 (pav ad np)) :: (sp, .inr (3, [.ref spb, .int fp])) :: (spb, zI Z 6 L) :: (se, .inr (1, [.ref sl, .ref sk])) :: (sl, zI Z 29 lf) :: (sk, zI Z 29 tk) :: (ad j 0, .inr (0, [.ref (ad j 1), .ref (ad j 3), .int (pn j 0), .int (pn j 1), .int (pn j 2), .int (pn j 3)])) :: (ad j 1, .inr (2, [.ref (ad j 2)])) :: (ad j 2, zI Z 290 (F j)) :: (ad j 3, .inr (2, [.ref (ad j 4)])) :: (ad j 4, zI Z 290 (G j)) :: zrest j np (pcs Z ad F G pn)) _ _ := hW
                subst h_70
                refine lv_lstore_n (lv' := [(1, .long (dg y (F j) 290)), (4, .ref (ad j 0)), (3, .int (nI j)), (0, .ref x)]) hx hb dX4_digest_73 rfl hl (by decide) rfl (fun ls hl => ?_)
                have hW := zW_perm hW (zp_same (Z := Z) [(x, .inr (4, [.ref st, .ref pa, .int (nI np), .int dy, .int me, .int co, .int ca, .int br, .int ml, .ref sp, .ref se])), (st, .inr (2, [.ref sb])), (sb, zI Z 290 S), (pa, zQ Z 6 (pav ad np)), (sp, .inr (3, [.ref spb, .int fp])), (spb, zI Z 6 L), (se, .inr (1, [.ref sl, .ref sk])), (sl, zI Z 29 lf), (sk, zI Z 29 tk)] hz)
                have hW : zW Z s A ((x, .inr (4, [.ref st, .ref pa, .int (nI np), .int dy, .int me, .int co, .int ca, .int br, .int ml, .ref sp, .ref se])) :: (st, .inr (2, [.ref sb])) :: (sb, zI Z 290 S) :: (pa, zQ Z 6 (pav ad np)) :: (sp, .inr (3, [.ref spb, .int fp])) :: (spb, zI Z 6 L) :: (se, .inr (1, [.ref sl, .ref sk])) :: (sl, zI Z 29 lf) :: (sk, zI Z 29 tk) :: zpool np (pcs Z ad F G pn)) _ _ := hW
                refine lv_iinc (v := nI (j + 1)) (lv' := [(3, .int (nI (j + 1))), (1, .long (dg y (F j) 290)), (4, .ref (ad j 0)), (0, .ref x)]) hx hb dX4_digest_74 hl (k := 2) rfl (zinc1 _) (by decide) rfl (fun ls hl => ?_)
                refine lv_goto (tgt := 42) hx hb dX4_digest_77 (by decide) ?_
                have hl : lv_has ls 5 [(3, .int (nI (j + 1))), (1, .long (dg y (F j) 290)), (0, .ref x)] := lv_sub hl [0, 1, 3] rfl
                exact ih_42 (j + 1) (dg y (F j) 290) (by omega) (by subst hy9; first | rw [d2S_lt hz] | rw [d2S_ge hz]) (by omega) _ _ _ hW hl
              · refine zw_topn (pav_n (by omega)) ?_
                refine lv_astoreN (lv' := [(4, .null), (3, .int (nI j)), (1, .long y), (0, .ref x)]) hx hb dX4_digest_57 hl (by decide) rfl (fun ls hl => ?_)
                refine lv_aloadN hx hb dX4_digest_59 (lv_at hl 0 rfl) ?_
                refine lv_ifnullN (tgt := 74) hx hb dX4_digest_61 (by decide) ?_
                refine lv_iinc (v := nI (j + 1)) (lv' := [(3, .int (nI (j + 1))), (4, .null), (1, .long y), (0, .ref x)]) hx hb dX4_digest_74 hl (k := 1) rfl (zinc1 _) (by decide) rfl (fun ls hl => ?_)
                refine lv_goto (tgt := 42) hx hb dX4_digest_77 (by decide) ?_
                have hl : lv_has ls 5 [(3, .int (nI (j + 1))), (1, .long y), (0, .ref x)] := lv_sub hl [0, 2, 3] rfl
                exact ih_42 (j + 1) y (by omega) (by subst hy9; first | rw [d2S_lt hz] | rw [d2S_ge hz]) (by omega) _ _ _ hW hl
        have hl : lv_has ls 5 [(3, .int (nI 0)), (1, .long (dg (d1S dy me co S np ca br ml i) S 290)), (0, .ref x)] := lv_sub hl [0, 1, 2] rfl
        exact loop_42 _ 0 (dg (d1S dy me co S np ca br ml i) S 290) (by omega) (by rw [show i = 8 by omega, show min 0 np = 0 by omega]; rfl) (Nat.lt_succ_self _) _ _ _ hW hl
      · refine lv_lload_n hx hb dX4_digest_12 rfl (lv_at hl 1 rfl) ?_
        refine lv_ldc2 (own := RX4) (v := 31) hx hb hown (hts _ mw_X4_digest_5) dX4_digest_13 ?_
        refine lv_lmul hx hb dX4_digest_16 ?_
        refine lv_aload_n hx hb dX4_digest_17 rfl (lv_at hl 2 rfl) ?_
        refine lv_iload_n hx hb dX4_digest_18 rfl (lv_at hl 0 rfl) ?_
        refine zc_i (va_runV (As := [.int (nI i)]) (rest := [.long ((d1S dy me co S np ca br ml i) * 31)]) hC (c_X4_number l Z x st sb pa sp se np S dy me co ca br ml i (by omega) _) (cwV 1 hts gX4_digest_X4_number rfl rfl rfl (by decide +kernel) ⟨Nat.le_of_ble_eq_true rfl, Nat.le_of_ble_eq_true rfl⟩) (zpreV (ci := 4) (q0 := 0) hX hW rfl rfl [0, 1, 2] rfl (by decide)) rfl rfl hl.1 rfl (lv_room (Nat.le_of_ble_eq_true rfl)) dX4_digest_19 ⟨Nat.le_of_ble_eq_true rfl, Nat.le_of_ble_eq_true rfl⟩) hX hW [0, 1, 2] rfl (by decide) (fun _ => rfl) (fun r_19 u_19 H locs h_19 hW => ?_)
        have hW : zW Z s A ((x, .inr (4, [.ref st, .ref pa, .int (nI np), .int dy, .int me, .int co, .int ca, .int br, .int ml, .ref sp, .ref se])) :: (st, .inr (2, [.ref sb])) :: (sb, zI Z 290 S) :: (pa, zQ Z 6 (pav ad np)) :: (sp, .inr (3, [.ref spb, .int fp])) :: (spb, zI Z 6 L) :: (se, .inr (1, [.ref sl, .ref sk])) :: (sl, zI Z 29 lf) :: (sk, zI Z 29 tk) :: zpool np (pcs Z ad F G pn)) _ _ := hW
        subst h_19
        refine lv_i2l (v := (cnt dy me co S np ca br ml i).toInt64) hx hb dX4_digest_22 rfl ?_
        refine lv_ladd hx hb dX4_digest_23 ?_
        refine lv_lstore_n (lv' := [(1, .long (((d1S dy me co S np ca br ml i) * 31) + ((cnt dy me co S np ca br ml i).toInt64))), (3, .int (nI i)), (0, .ref x)]) hx hb dX4_digest_24 rfl hl (by decide) rfl (fun ls hl => ?_)
        refine lv_iinc (v := nI (i + 1)) (lv' := [(3, .int (nI (i + 1))), (1, .long (((d1S dy me co S np ca br ml i) * 31) + ((cnt dy me co S np ca br ml i).toInt64))), (0, .ref x)]) hx hb dX4_digest_25 hl (k := 1) rfl (zinc1 _) (by decide) rfl (fun ls hl => ?_)
        refine lv_goto (tgt := 6) hx hb dX4_digest_28 (by decide) ?_
        have hl : lv_has ls 5 [(3, .int (nI (i + 1))), (1, .long (d1S dy me co S np ca br ml (i + 1))), (0, .ref x)] := lv_sub hl [0, 1, 2] rfl
        exact ih_6 (i + 1) (by omega) (by omega) _ _ _ hW hl
  have hl : lv_has ls 5 [(3, .int (nI 0)), (1, .long (d1S dy me co S np ca br ml 0)), (0, .ref x)] := lv_sub hl [0, 1, 2] rfl
  exact loop_6 _ 0 (by omega) (Nat.lt_succ_self _) _ _ _ hW hl
