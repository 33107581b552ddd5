/-! ===== the law's loop ===== -/
theorem li_s {Z : zT} {s : State} {A : Nat → Prop} {nc : Nat} {o0 o1 o2 o3 o4 o5 o6 o7 o8 x st sb pa sp spb se sl sk ou : Nat} {H : Heap} {locs : List Loc} (h : LI Z s A nc o0 o1 o2 o3 o4 o5 o6 o7 o8 x st sb pa sp spb se sl sk ou H locs) : LI Z s A (nc + 1) o0 o1 o2 o3 o4 o5 o6 o7 o8 x st sb pa sp spb se sl sk ou H locs := by
  obtain ⟨th, dy, me, co, ca, br, ml, le, fp, np, S, E, Tk, Lf, L, lf, tk, F, G, pn, ad, ov, hnp, hGI, hW⟩ := h
  exact ⟨th, dy, me, co, ca, br, ml, le, fp, np, S, E, Tk, Lf, L, lf, tk, F, G, pn, ad, ov, hnp, gi_same hGI, hW⟩
theorem li_S {Z : zT} {s : State} {A : Nat → Prop} {nc : Nat} {o0 o1 o2 o3 o4 o5 o6 o7 o8 x st sb pa sp spb se sl sk ou : Nat} {H : Heap} {locs : List Loc} (h : LI Z s A nc o0 o1 o2 o3 o4 o5 o6 o7 o8 x st sb pa sp spb se sl sk ou H locs) : ∃ ws, zW Z s A ws H locs := by
  obtain ⟨th, dy, me, co, ca, br, ml, le, fp, np, S, E, Tk, Lf, L, lf, tk, F, G, pn, ad, ov, hnp, hGI, hW⟩ := h
  exact ⟨_, hW⟩
theorem law_more {LL i : Nat} (hLL : LL ≤ 2048) (hi : i ≤ LL) (h : ¬ nI LL - nI 4 < nI i) : i + 4 ≤ LL := by
  rw [zn_lt, pk_sub_toInt (by omega) (by omega), nI_toInt (by omega)] at h
  omega
