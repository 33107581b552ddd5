/-! ===== calls of methods that take a world whole, its pool too ===== -/
section ZAA
variable {p : Program} {l : Launch} {e : Env} {R : Room} {s : State} {m : MethodId} {args : Array Value} {below : List Frame} {meth : Method} {c : Code} {H : Heap} {locs : List Loc} {cells slots : Nat} {Q : State → Prop}
variable {cc : ByteArray} {pc : Nat} {ls : Array Slot} {rest st0 : List Value} {Z : zT} {A : Nat → Prop} {wr wc w1 : va_W} {a : Array Value} {mc ms : Nat}
theorem zgetA {wr wc : va_W} (k : Nat) : (wr ++ wc)[wr.length + k]? = wc[k]? := by rw [List.getElem?_append_right (Nat.le_add_right _ _), Nat.add_sub_cancel_left]
theorem zdropP {D : va_G} {cl : List vw_C} (h : va_P D cl (wr ++ wc) H) : va_P D cl wc H := fun k q hk => h (wr.length + k) q (by rw [zgetA]; exact hk)
theorem zdropD (h : va_D A (wr ++ wc)) : va_D A wc := ⟨fun i j p q hi hj he => by
  have := h.1 (wr.length + i) (wr.length + j) p q (by rw [zgetA]; exact hi) (by rw [zgetA]; exact hj) he
  omega, fun k q hk => h.2 (wr.length + k) q (by rw [zgetA]; exact hk)⟩
theorem zfreeA (X : zX Z s A) (h : zW Z s A (wr ++ wc) H locs) : ∀ q, va_A wc H.size q → A q := by
  rintro q (⟨k, e, hk⟩ | hk)
  · exact (zdropD h.2.1).2 k (q, e) hk
  · exact X.2.2.2.1 q (Nat.le_trans h.2.2.1 hk)
theorem zpreUA (X : zX Z s A) (h : zW Z s A (wr ++ wc) H locs) {U : State} (hU : U.heap = H) (hW : s.WarmedH U.vm) : zPre Z wc H.size U := by
  obtain ⟨hK, hH, hA, hA2, hz⟩ := X
  obtain ⟨hP, hD, hS⟩ := h
  refine ⟨by rw [hU], Nat.le_trans hz hS.1, by rw [hU]; exact zdropP hP, zK.warm hW hK, (zdropD hD).weaken (fun _ _ _ q => hA _ q), ?_⟩
  rw [hU]
  exact zH.moved hW.alike (hH.kept (fun a h1 h2 => hS.2.1 a h1 (fun q => h2 (hA a q))))
theorem zpreSA (X : zX Z s A) (h : zW Z s A (wr ++ wc) H locs) {as : List Value} : PreS s H (va_Pc as (zPre Z wc H.size)) as := ⟨zblind, fun U hU hW => ⟨rfl, zpreUA X h hU hW⟩⟩
theorem zpreVA (X : zX Z s A) (h : zW Z s A (wr ++ wc) H locs) {as : List Value} {b q0 ci : Nat} {q : vw_C} {fs : List Value} (hc : vwCl[ci]? = some q) (he : wc[q0]? = some (b, .inr (ci, fs))) : PreV s H q.1 b (va_Pc (.ref b :: as) (zPre Z wc H.size)) as :=
  ⟨zblind, va_recv X.1.1 (zdropP h.1) hc he, fun U hU hW => ⟨rfl, zpreUA X h hU hW⟩⟩
theorem zafterA {t : State} {H1 : Heap} {locs1 : List Loc} (X : zX Z s A) (h : zW Z s A (wr ++ wc) H locs) (ht : t.heap = H1) (hB : zB Z w1 (va_A wc H.size) t) (hk : ∀ q : Nat, q < H.size → ¬ va_A wc H.size q → H1[q]? = H[q]?) (hS : va_S A s.heap H1 locs1) : zW Z s A (wr ++ w1) H1 locs1 := by
  obtain ⟨hP1, hD1⟩ := hB
  rw [ht] at hP1
  have off : ∀ (j : Nat) (q : Nat × va_E), wr[j]? = some q → (wr ++ wc)[j]? = some q ∧ q.1 < H.size ∧ ¬ va_A wc H.size q.1 := by
    intro j q hq
    have hj := (List.getElem?_eq_some_iff.mp hq).1
    have hq2 : (wr ++ wc)[j]? = some q := by rw [List.getElem?_append_left hj]; exact hq
    have hlt := (h.1 j q hq2).lt
    refine ⟨hq2, hlt, ?_⟩
    rintro (⟨k, e, hk2⟩ | hk2)
    · have := h.2.1.1 j (wr.length + k) q (q.1, e) hq2 (by rw [zgetA]; exact hk2) rfl
      omega
    · omega
  have spl : ∀ (k : Nat) (q : Nat × va_E), (wr ++ w1)[k]? = some q → (k < wr.length ∧ wr[k]? = some q) ∨ ∃ i, k = wr.length + i ∧ w1[i]? = some q := by
    intro k q hq
    rcases Nat.lt_or_ge k wr.length with g | g
    · rw [List.getElem?_append_left g] at hq; exact Or.inl ⟨g, hq⟩
    · rw [List.getElem?_append_right g] at hq; exact Or.inr ⟨k - wr.length, by omega, hq⟩
  refine ⟨fun k q hq => ?_, ⟨fun i j x y hi hj hxy => ?_, fun k q hq => ?_⟩, hS⟩
  · rcases spl k q hq with ⟨g, h1⟩ | ⟨i, -, h1⟩
    · obtain ⟨e1, e2, e3⟩ := off k q h1
      exact (h.1 k q e1).kept (hk q.1 e2 e3)
    · exact hP1 i q h1
  · rcases spl i x hi with ⟨g, h1⟩ | ⟨a1, g, h1⟩ <;> rcases spl j y hj with ⟨g2, h2⟩ | ⟨b1, g2, h2⟩
    · exact h.2.1.1 i j x y (off i x h1).1 (off j y h2).1 hxy
    · exact absurd (by rw [hxy]; exact hD1.2 b1 y h2) (off i x h1).2.2
    · exact absurd (by rw [← hxy]; exact hD1.2 a1 x h1) (off j y h2).2.2
    · have := hD1.1 a1 b1 x y h1 h2 hxy
      omega
  · rcases spl k q hq with ⟨g, h1⟩ | ⟨i, -, h1⟩
    · exact h.2.1.2 k q (off k q h1).1
    · exact zfreeA X h _ (hD1.2 i q h1)
theorem zcA_i {S : Type} {post : Int32 → S → Prop} {W' : S → va_W} (hr : va_Run p l e R s m args below meth c H locs cells slots mc ms (F0 m pc ls st0) rest (zQi Z post W' (va_A wc H.size) a) (va_A wc H.size)) (X : zX Z s A) (h : zW Z s A (wr ++ wc) H locs)
    (kk : ∀ (r : Int32) (u : S) (H1 : Heap) (locs1 : List Loc), post r u → zW Z s A (wr ++ W' u) H1 locs1 → W p l e R s m args below meth c H1 locs1 (cells + mc) (slots + ms) Q (F0 m (pc + 3) ls (.int r :: rest))) : W p l e R s m args below meth c H locs cells slots Q (F0 m pc ls st0) :=
  va_calli hr h.2.2 (fun q _ z => zfreeA X h q z) (zfreeA X h) (fun r u t H1 locs1 ht hvm hp hB hz hk hS => kk r u H1 locs1 hp (zafterA X h ht hB hk hS))
theorem zcA_l {S : Type} {post : Int64 → S → Prop} {W' : S → va_W} (hr : va_Run p l e R s m args below meth c H locs cells slots mc ms (F0 m pc ls st0) rest (zQl Z post W' (va_A wc H.size) a) (va_A wc H.size)) (X : zX Z s A) (h : zW Z s A (wr ++ wc) H locs)
    (kk : ∀ (r : Int64) (u : S) (H1 : Heap) (locs1 : List Loc), post r u → zW Z s A (wr ++ W' u) H1 locs1 → W p l e R s m args below meth c H1 locs1 (cells + mc) (slots + ms) Q (F0 m (pc + 3) ls (.long r :: rest))) : W p l e R s m args below meth c H locs cells slots Q (F0 m pc ls st0) :=
  va_calll hr h.2.2 (fun q _ z => zfreeA X h q z) (zfreeA X h) (fun r u t H1 locs1 ht hvm hp hB hz hk hS => kk r u H1 locs1 hp (zafterA X h ht hB hk hS))
theorem zcA_d {S : Type} {post : UInt64 → S → Prop} {W' : S → va_W} (hr : va_Run p l e R s m args below meth c H locs cells slots mc ms (F0 m pc ls st0) rest (zQd Z post W' (va_A wc H.size) a) (va_A wc H.size)) (X : zX Z s A) (h : zW Z s A (wr ++ wc) H locs)
    (kk : ∀ (r : UInt64) (u : S) (H1 : Heap) (locs1 : List Loc), post r u → zW Z s A (wr ++ W' u) H1 locs1 → W p l e R s m args below meth c H1 locs1 (cells + mc) (slots + ms) Q (F0 m (pc + 3) ls (.double r :: rest))) : W p l e R s m args below meth c H locs cells slots Q (F0 m pc ls st0) :=
  va_calld hr h.2.2 (fun q _ z => zfreeA X h q z) (zfreeA X h) (fun r u t H1 locs1 ht hvm hp hB hz hk hS => kk r u H1 locs1 hp (zafterA X h ht hB hk hS))
theorem zhA_i {S SX : Type} {post : Int32 → S → Prop} {W' : S → va_W} {px : Nat → SX → Prop} {WX : SX → va_W} (hr : vx_Run p l e R s m args below meth c H locs cells slots mc ms (F0 m pc ls st0) rest (zQi Z post W' (va_A wc H.size) a) (zXC Z px WX (va_A wc H.size)) (va_A wc H.size)) (X : zX Z s A) (h : zW Z s A (wr ++ wc) H locs)
    (kx : ∀ (ce : Cell) (q9 : Addr) (k : Nat) (u : SX) (H1 : Heap) (locs1 : List Loc), px k u → zW Z s A (wr ++ WX u) H1 locs1 → H1[q9]? = some ce → ce.vm = .none → s.vm.findClass (zEx k) = some ce.cls → vx_W p l e R s m args below meth c H1 locs1 (cells + mc) (slots + ms) Q (F0 m pc ls rest) q9)
    (kk : ∀ (r : Int32) (u : S) (H1 : Heap) (locs1 : List Loc), post r u → zW Z s A (wr ++ W' u) H1 locs1 → W p l e R s m args below meth c H1 locs1 (cells + mc) (slots + ms) Q (F0 m (pc + 3) ls (.int r :: rest))) : W p l e R s m args below meth c H locs cells slots Q (F0 m pc ls st0) :=
  vx_calli hr h.2.2 (fun q _ z => zfreeA X h q z) (zfreeA X h) (fun q _ z => zfreeA X h q z)
    (fun E ce q9 u t H1 locs1 ht hvm hp hB hz hk hS hce hcv hcl => by
      obtain ⟨hE, hB⟩ := hB
      subst hE
      exact kx ce q9 u.1 u.2 H1 locs1 hp (zafterA X h ht hB hk hS) hce hcv hcl)
    (fun r u t H1 locs1 ht hvm hp hB hz hk hS => kk r u H1 locs1 hp (zafterA X h ht hB hk hS))
end ZAA
theorem cdx_le (g1 g2 g3 : Prop) : cdx g1 g2 g3 ≤ 3 := by
  unfold cdx
  split
  · omega
  · split
    · omega
    · split <;> omega
theorem cdx_n1 {g1 g2 g3 : Prop} (h : ¬ g1) : cdx g1 g2 g3 ≠ 1 := by
  unfold cdx
  rw [if_neg h]
  split
  · omega
  · split <;> omega
theorem cdx_n2 {g1 g2 g3 : Prop} (h : ¬ g2) : cdx g1 g2 g3 ≠ 2 := by
  unfold cdx
  split
  · omega
  · split <;> omega
theorem cdx_n3 {g1 g2 g3 : Prop} (h : ¬ g3) : cdx g1 g2 g3 ≠ 3 := by
  unfold cdx
  split
  · omega
  · split
    · omega
    · omega
theorem cdx_sh (a b : Prop) : cdx False a b = (if cdx a b False = 0 then 0 else cdx a b False + 1) := by
  unfold cdx
  rw [if_neg id]
  by_cases ha : a
  · rw [if_pos ha, if_pos ha]; rfl
  · rw [if_neg ha, if_neg ha]
    by_cases hb : b
    · rw [if_pos hb, if_pos hb]; rfl
    · rw [if_neg hb, if_neg hb, if_neg id]; rfl
theorem cdx_sh0 {a b : Prop} (h : 0 = cdx False a b) : 0 = cdx a b False := by
  rw [cdx_sh] at h
  split at h
  · rename_i q; exact q.symm
  · omega
theorem cdx_shk {a b : Prop} {k : Nat} (h1 : 1 ≤ k) (h : k = cdx False a b) : k - 1 = cdx a b False ∧ 2 ≤ k := by
  rw [cdx_sh] at h
  split at h
  · omega
  · omega
theorem zcs1 : Cond.castable zE1 zE1 ∈ zNs := by decide +kernel
theorem zcs2 : Cond.castable zE2 zE2 ∈ zNs := by decide +kernel
theorem zcs3 : Cond.castable zE3 zE3 ∈ zNs := by decide +kernel
theorem znc {a b : String} (h : (a, b) ∈ zNc) {Z : zT} {s : State} {A : Nat → Prop} (X : zX Z s A) : va_Nc a b s := X.1.2.2.2.1 _ h
theorem zcas {a b : String} (h : Cond.castable a b ∈ zNs) {Z : zT} {s : State} {A : Nat → Prop} (X : zX Z s A) {args : Array Value} : (Cond.castable a b).before args s = true := va_Nw.use (by rfl) (X.1.2.1 _ h)
