/-! ===== the facts and the world that every contract of this claim carries ===== -/
abbrev zT : Type := va_G × ClassId × ClassId × ClassId × Nat
abbrev zD (Z : zT) : va_G := Z.1
abbrev zI (Z : zT) (n : Nat) (f : Nat → Int32) : va_E := .inl (Z.2.1, n, .inl f)
abbrev zQ (Z : zT) (n : Nat) (f : Nat → Option Nat) : va_E := .inl (Z.2.2.1, n, .inr (.inr (.inr (.inr f))))
abbrev zL (Z : zT) (n : Nat) (f : Nat → Int64) : va_E := .inl (Z.2.2.2.1, n, .inr (.inl f))
abbrev zb (Z : zT) : Nat := Z.2.2.2.2
abbrev zty (Z : zT) : List (ClassId × FieldType) := [(Z.2.1, .int), (Z.2.2.1, .object RX0), (Z.2.2.2.1, .long)]
abbrev zEs : List String := ["java/lang/RuntimeException", "java/lang/Exception"]
abbrev zE1 : String := "java/lang/IndexOutOfBoundsException"
abbrev zE2 : String := "java/lang/IllegalArgumentException"
abbrev zE3 : String := "java/lang/IllegalStateException"
/-- the exceptions of the document, by number -/
def zEx : Nat → String
  | 1 => zE1
  | 2 => zE2
  | _ => zE3
def zNs : List Cond := [.methodLinkNest RX4 9 yX2_init RX4, .methodLinkNest RX4 28 yX3_init RX4, .methodLinkNest RX4 35 yX1_init RX4, .methodLinkNest RX2 24 yX4_isLigature RX4, .methodLinkNest RX0 11 yX2_init RX4, .methodLinkNest RX1 40 yX4_isLigature RX4, .fieldLinkNest RX4 104 RX0 "tray" "LTypeFoundry$Sorts;" RX4, .fieldLinkNest RX4 143 RX0 "form" "LTypeFoundry$Sorts;" RX4, .fieldLinkNest RX4 119 RX0 "coins" "I" RX4, .fieldLinkNest RX4 116 RX0 "owed" "I" RX4, .fieldLinkNest RX4 165 RX0 "copies" "I" RX4, .fieldLinkNest RX4 155 RX0 "words" "I" RX4, .castable zE1 zE1, .castable zE2 zE2, .castable zE3 zE3, .declares ⟨"java/lang/RuntimeException", "<init>", "(Ljava/lang/String;)V"⟩, .declares ⟨"java/lang/Exception", "<init>", "(Ljava/lang/String;)V"⟩, .declares ⟨"java/lang/Throwable", "<init>", "(Ljava/lang/String;)V"⟩]
def zN (U : State) : Prop := ∀ w ∈ zNs, va_Nw w U
theorem zN.warm {s U : State} (hW : s.WarmedH U.vm) (h : zN s) : zN U := by
  intro w hw
  have h0 := h w hw
  simp only [zNs, List.mem_cons, List.not_mem_nil, or_false] at hw
  rcases hw with rfl | rfl | rfl | rfl | rfl | rfl | rfl | rfl | rfl | rfl | rfl | rfl | rfl | rfl | rfl | rfl | rfl | rfl
  · exact va_Nw.warmM hW h0
  · exact va_Nw.warmM hW h0
  · exact va_Nw.warmM hW h0
  · exact va_Nw.warmM hW h0
  · exact va_Nw.warmM hW h0
  · exact va_Nw.warmM hW h0
  · exact va_Nw.warmF hW h0
  · exact va_Nw.warmF hW h0
  · exact va_Nw.warmF hW h0
  · exact va_Nw.warmF hW h0
  · exact va_Nw.warmF hW h0
  · exact va_Nw.warmF hW h0
  · exact va_Nw.warmC hW h0
  · exact va_Nw.warmC hW h0
  · exact va_Nw.warmC hW h0
  · exact va_Nw.warmD hW h0
  · exact va_Nw.warmD hW h0
  · exact va_Nw.warmD hW h0
/-- the texts of the exceptions: entry, text -/
def zStr : List (Nat × String) := [(102, "there are not so many in the stock"), (111, "there are not so many in the case"), (141, "the word cannot be set"), (150, "there would be more than 60 sorts in the form"), (158, "copies is not 1 to 1000"), (160, "the form is empty"), (171, "days is not 1 to 100"), (181, "wear is not 0 to 9"), (187, "what is not 0 to 6"), (192, "what is not 0 to 7"), (222, "sign is not 0 to 28"), (224, "many is not 1 to 200"), (226, "there is no such printer"), (231, "word is no word"), (53, "there is not so much metal"), (62, "there would be more than 999 sorts of the sign in the stock"), (73, "wear is not 1 to 9"), (79, "there would be more than 9999 of metal"), (87, "metal is not 1 to 2000"), (89, "coins is not 0 to 5000"), (94, "there are 6 printers")]
def zSt (U : State) : Prop := ∀ q ∈ zStr, ∃ sa : Nat, vk_R RX4 q.1 q.2 sa U
def zNc : List (String × String) := [(zE1, zE2), (zE1, zE3), (zE2, zE1), (zE2, zE3), (zE3, zE1), (zE3, zE2)]
def zC (U : State) : Prop := ∀ q ∈ zNc, va_Nc q.1 q.2 U
def zK (Z : zT) (U : State) : Prop := va_K (zD Z) vwCl (zty Z) U ∧ zN U ∧ zSt U ∧ zC U ∧ va_AO RX0 U
theorem zK.warm {Z : zT} {s U : State} (hW : s.WarmedH U.vm) (h : zK Z s) : zK Z U :=
  ⟨va_K.moved hW.alike h.1, zN.warm hW h.2.1, fun q hq => by obtain ⟨sa, hs⟩ := h.2.2.1 q hq; exact ⟨sa, vk_R.warm hW hs⟩, fun q hq => va_Nc.moved hW.alike (h.2.2.2.1 q hq), va_AO.moved hW.alike h.2.2.2.2⟩
def zH (Z : zT) (U : State) (H : Heap) : Prop := vx_Zq Bundle.tN "UNASSIGNED_STACK" Bundle.steD (fun q => zb Z ≤ q) U H ∧ vx_Zq Bundle.tN "SUPPRESSED_SENTINEL" Bundle.listD (fun q => zb Z ≤ q) U H
theorem zH.moved {Z : zT} {u U : State} {H : Heap} (hvm : u.vm.Alike U.vm) (h : zH Z u H) : zH Z U H := ⟨vx_Zq.moved hvm h.1, vx_Zq.moved hvm h.2⟩
theorem zH.kept {Z : zT} {U : State} {H H1 : Heap} (h : zH Z U H) (hq : ∀ a : Nat, a < H.size → ¬ zb Z ≤ a → H1[a]? = H[a]?) : zH Z U H1 := ⟨vx_Zq.kept h.1 hq, vx_Zq.kept h.2 hq⟩
/-- what a method's start gives of the state -/
def zX (Z : zT) (s : State) (A : Nat → Prop) : Prop := zK Z s ∧ zH Z s s.heap ∧ (∀ q, A q → zb Z ≤ q) ∧ (∀ q, s.heap.size ≤ q → A q) ∧ zb Z ≤ s.heap.size
/-- the world at a point of the method -/
def zW (Z : zT) (s : State) (A : Nat → Prop) (ws : va_W) (H : Heap) (locs : List Loc) : Prop := va_P (zD Z) vwCl ws H ∧ va_D A ws ∧ va_S A s.heap H locs
def zPre (Z : zT) (ws : va_W) (sz : Nat) : State → Prop := fun U => U.heap.size = sz ∧ zb Z ≤ sz ∧ va_P (zD Z) vwCl ws U.heap ∧ zK Z U ∧ va_D (fun q => zb Z ≤ q) ws ∧ zH Z U U.heap
def zB (Z : zT) (ws : va_W) (A : Nat → Prop) : State → Prop := fun t => va_P (zD Z) vwCl ws t.heap ∧ va_D A ws
abbrev zQi {S : Type} (Z : zT) (post : Int32 → S → Prop) (W' : S → va_W) (A : Nat → Prop) : Array Value → State → Outcome → State → Prop := va_Qi post (fun u => zB Z (W' u) A) A
abbrev zQl {S : Type} (Z : zT) (post : Int64 → S → Prop) (W' : S → va_W) (A : Nat → Prop) : Array Value → State → Outcome → State → Prop := va_Ql post (fun u => zB Z (W' u) A) A
abbrev zQd {S : Type} (Z : zT) (post : UInt64 → S → Prop) (W' : S → va_W) (A : Nat → Prop) : Array Value → State → Outcome → State → Prop := va_Qd post (fun u => zB Z (W' u) A) A
abbrev zQv {S : Type} (Z : zT) (post : S → Prop) (W' : S → va_W) (A : Nat → Prop) : Array Value → State → Outcome → State → Prop := va_Qv post (fun u => zB Z (W' u) A) A
/-- an answer that is one of the world's cells, at the address ra u -/
abbrev zQr {S : Type} (Z : zT) (post : S → Prop) (ra : S → Nat) (W' : S → va_W) (A : Nat → Prop) : Array Value → State → Outcome → State → Prop := va_Qr post (fun u a t => a = ra u ∧ zB Z (W' u) A t) A
/-- what a throw says: which exception (by number), and the world -/
abbrev zXC {S : Type} (Z : zT) (px : Nat → S → Prop) (W' : S → va_W) (A : Nat → Prop) : String → State → State → Prop := vx_X (fun u : Nat × S => px u.1 u.2) (fun E u t => E = zEx u.1 ∧ zB Z (W' u.2) A t) A
def zMet (l : Launch) (y : MethodName) (wsY : List Cond) (rm : Room) (as : List Value) (Z : zT) (ws : va_W) (Qc : (Nat → Prop) → Array Value → State → Outcome → State → Prop) (mc ms : Nat) : Prop := ∀ sz : Nat, Met l y wsY rm (va_Pc as (zPre Z ws sz)) (Qc (va_A ws sz)) mc ms (va_A ws sz)
def zTet (l : Launch) (y : MethodName) (wsY : List Cond) (rm : Room) (as : List Value) (Z : zT) (ws : va_W) (Qc : (Nat → Prop) → Array Value → State → Outcome → State → Prop) (XC : (Nat → Prop) → String → State → State → Prop) (mc ms : Nat) : Prop := ∀ sz : Nat, vx_Met l y wsY rm (va_Pc as (zPre Z ws sz)) (Qc (va_A ws sz)) (XC (va_A ws sz)) mc ms (va_A ws sz)
theorem zpick {ws wc : va_W} {is : List Nat} (hC : is.map (fun i => ws[i]?) = wc.map some) (k : Nat) (q : Nat × va_E) (hk : wc[k]? = some q) : ∃ i, is[k]? = some i ∧ ws[i]? = some q := by
  have h1 : (is.map (fun i => ws[i]?))[k]? = some (some q) := by rw [hC, List.getElem?_map, hk]; rfl
  rw [List.getElem?_map] at h1
  cases hi : is[k]? with
  | none => rw [hi] at h1; cases h1
  | some i => rw [hi] at h1; exact ⟨i, rfl, Option.some.inj h1⟩
theorem zPsub {D : va_G} {cl : List vw_C} {ws wc : va_W} {H : Heap} {is : List Nat} (h : va_P D cl ws H) (hC : is.map (fun i => ws[i]?) = wc.map some) : va_P D cl wc H := fun k q hk => by
  obtain ⟨i, -, hi⟩ := zpick hC k q hk
  exact h i q hi
theorem zblind {Z : zT} {as : List Value} {ws : va_W} {sz : Nat} : FrameBlind (va_Pc as (zPre Z ws sz)) := by
  intro a U g mk h
  obtain ⟨h1, h2, h3, h4, h5, h6, h7⟩ := h
  exact ⟨h1, h2, h3, h4, zK.warm (s := U) (U := U.calling g mk a) (State.WarmedH.refl U) h5, h6, zH.moved (u := U) (U := U.calling g mk a) (Vm.Alike.refl U.vm) h7⟩
section ZA
variable {p : Program} {l : Launch} {e : Env} {R : Room} {s : State} {m : MethodId} {args : Array Value} {below : List Frame} {meth : Method} {c : Code} {H : Heap} {locs : List Loc} {cells slots : Nat} {Q : State → Prop}
variable {Z : zT} {A : Nat → Prop} {ws : va_W}
theorem zpreU (X : zX Z s A) (h : zW Z s A ws H locs) {wc : va_W} (is : List Nat) (hC : is.map (fun i => ws[i]?) = wc.map some) (hn : va_nd is = true) {U : State} (hU : U.heap = H) (hW : s.WarmedH U.vm) : zPre Z wc H.size U := by
  obtain ⟨hK, hH, hA, hA2, hz⟩ := X
  obtain ⟨hP, hD, hS⟩ := h
  refine ⟨by rw [hU], Nat.le_trans hz hS.1, by rw [hU]; exact zPsub hP hC, zK.warm hW hK, (hD.sub is hn hC).weaken (fun _ _ _ q => hA _ q), ?_⟩
  rw [hU]
  exact zH.moved hW.alike (hH.kept (fun a h1 h2 => hS.2.1 a h1 (fun q => h2 (hA a q))))
theorem zpreS (X : zX Z s A) (h : zW Z s A ws H locs) {wc : va_W} {as : List Value} (is : List Nat) (hC : is.map (fun i => ws[i]?) = wc.map some) (hn : va_nd is = true) : PreS s H (va_Pc as (zPre Z wc H.size)) as :=
  ⟨zblind, fun U hU hW => ⟨rfl, zpreU X h is hC hn hU hW⟩⟩
theorem zpreV (X : zX Z s A) (h : zW Z s A ws H locs) {wc : va_W} {as : List Value} {b q0 ci : Nat} {q : vw_C} {fs : List Value} (hc : vwCl[ci]? = some q) (he : ws[q0]? = some (b, .inr (ci, fs))) (is : List Nat) (hC : is.map (fun i => ws[i]?) = wc.map some) (hn : va_nd is = true) : PreV s H q.1 b (va_Pc (.ref b :: as) (zPre Z wc H.size)) as :=
  ⟨zblind, va_recv X.1.1 h.1 hc he, fun U hU hW => ⟨rfl, zpreU X h is hC hn hU hW⟩⟩
end ZA
/-- the world with the cells at the places 'is' put anew -/
def zput (ws : va_W) (is : List Nat) (w : va_W) : va_W := (is.zip w).foldl (fun a p => a.set p.1 p.2) ws
theorem zput_spec : ∀ (is : List Nat) (ws w : va_W), va_nd is = true → w.length = is.length → ∀ (k : Nat) (q : Nat × va_E), (zput ws is w)[k]? = some q → (k ∉ is ∧ ws[k]? = some q) ∨ ∃ i : Nat, is[i]? = some k ∧ w[i]? = some q := by
  intro is
  induction is with
  | nil =>
    intro ws w _ _ k q h
    exact Or.inl ⟨List.not_mem_nil, h⟩
  | cons i is ih =>
    intro ws w hn hl k q h
    cases w with
    | nil => simp at hl
    | cons q0 w =>
      simp only [va_nd, Bool.and_eq_true, decide_eq_true_eq] at hn
      have h' : (zput (ws.set i q0) is w)[k]? = some q := h
      rcases ih (ws.set i q0) w hn.2 (by simpa using hl) k q h' with ⟨h1, h2⟩ | ⟨j, h1, h2⟩
      · by_cases hk : k = i
        · subst hk
          have hlt : k < ws.length := by
            have := (List.getElem?_eq_some_iff.mp h2).1
            simpa using this
          rw [List.getElem?_set_self hlt] at h2
          exact Or.inr ⟨0, rfl, h2⟩
        · rw [List.getElem?_set_ne (Ne.symm hk)] at h2
          exact Or.inl ⟨fun z => (List.mem_cons.mp z).elim hk h1, h2⟩
      · exact Or.inr ⟨j + 1, h1, h2⟩
/-- behind a call: the callee's cells as they are now, the others unchanged; cells that the callee made stand at the end -/
theorem zjoin {A0 : Nat → Prop} {D : va_G} {cl : List vw_C} {ws wc wa wb : va_W} {H H1 : Heap} (hP : va_P D cl ws H) (hD : va_D A0 ws) (is : List Nat) (hC : is.map (fun i => ws[i]?) = wc.map some) (hn : va_nd is = true) (hl : wa.length = is.length)
    (hk : ∀ q : Nat, q < H.size → ¬ va_A wc H.size q → H1[q]? = H[q]?) (hF : ∀ q, va_A wc H.size q → A0 q) (hP1 : va_P D cl (wa ++ wb) H1) (hD1 : va_D (va_A wc H.size) (wa ++ wb)) : va_P D cl (zput ws is wa ++ wb) H1 ∧ va_D A0 (zput ws is wa ++ wb) := by
  have key : ∀ (k : Nat) (q : Nat × va_E), (zput ws is wa ++ wb)[k]? = some q → (∃ j, is.contains j = false ∧ ws[j]? = some q ∧ k = j) ∨ ∃ i, (wa ++ wb)[i]? = some q ∧ ((i < wa.length ∧ is[i]? = some k) ∨ (wa.length ≤ i ∧ k = (zput ws is wa).length + (i - wa.length))) := by
    intro k q hq
    by_cases hlt : k < (zput ws is wa).length
    · rw [List.getElem?_append_left hlt] at hq
      rcases zput_spec is ws wa hn hl k q hq with ⟨h1, h2⟩ | ⟨i, h1, h2⟩
      · exact Or.inl ⟨k, by simpa using h1, h2, rfl⟩
      · have hi := (List.getElem?_eq_some_iff.mp h2).1
        exact Or.inr ⟨i, by rw [List.getElem?_append_left hi]; exact h2, Or.inl ⟨hi, h1⟩⟩
    · rw [List.getElem?_append_right (by omega)] at hq
      exact Or.inr ⟨wa.length + (k - (zput ws is wa).length), by rw [List.getElem?_append_right (by omega), Nat.add_sub_cancel_left]; exact hq, Or.inr ⟨by omega, by omega⟩⟩
  have off : ∀ (j : Nat) (q : Nat × va_E), is.contains j = false → ws[j]? = some q → q.1 < H.size ∧ ¬ va_A wc H.size q.1 := by
    intro j q hj hq
    have hlt := (hP j q hq).lt
    refine ⟨hlt, fun h => ?_⟩
    rcases h with ⟨k2, e, h⟩ | h
    · obtain ⟨i, h3, h4⟩ := zpick hC k2 (q.1, e) h
      have hij := hD.1 j i q (q.1, e) hq h4 rfl
      subst hij
      have := List.mem_of_getElem? h3
      simp at hj
      exact hj this
    · omega
  refine ⟨fun k q hq => ?_, fun i j x y hi hj hxy => ?_, fun k q hq => ?_⟩
  · rcases key k q hq with ⟨j, h1, h2, -⟩ | ⟨i, h1, -⟩
    · obtain ⟨g1, g2⟩ := off j q h1 h2
      exact (hP j q h2).kept (hk q.1 g1 g2)
    · exact hP1 i q h1
  · rcases key i x hi with ⟨a, h1, h2, rfl⟩ | ⟨a, h1, h2⟩ <;> rcases key j y hj with ⟨b, h3, h4, rfl⟩ | ⟨b, h3, h4⟩
    · exact hD.1 _ _ x y h2 h4 hxy
    · exact absurd (by rw [hxy]; exact hD1.2 b y h3) (off _ x h1 h2).2
    · exact absurd (by rw [← hxy]; exact hD1.2 a x h1) (off _ y h3 h4).2
    · have hab := hD1.1 a b x y h1 h3 hxy
      subst hab
      rcases h2 with ⟨l2, h2⟩ | ⟨l2, h2⟩ <;> rcases h4 with ⟨l4, h4⟩ | ⟨l4, h4⟩
      · exact Option.some.inj (h2.symm.trans h4)
      · omega
      · omega
      · omega
  · rcases key k q hq with ⟨j, h1, h2, -⟩ | ⟨i, h1, -⟩
    · exact hD.2 j q h2
    · exact hF _ (hD1.2 i q h1)
