section
-- ===== PART A: goes FIRST, ahead of the names: the tables' words, and 'selects' of the private methods out of them =====
/-- a private method of a class that the tables say can be made, by its rows of tables_1 -/
def lw_okq (q : MethodName × Nat) : Prop := (q.1.cls ≠ "java/lang/invoke/MethodHandle" ∧ q.1.cls ≠ "java/lang/invoke/VarHandle") ∧ Cond.instantiable q.1.cls q.2 ∈ tables_1 ∧ Cond.privateMethod q.1 ∈ tables_1 ∧ Cond.instanceMethod q.1 ∈ tables_1
theorem lw_p0 : lw_okq (⟨"TypeFoundry", "number", "(I)I"⟩, 11) := ⟨⟨by decide +kernel, by decide +kernel⟩, List.mem_of_getElem? (i := 16) (by decide +kernel), List.mem_of_getElem? (i := 115) (by decide +kernel), List.mem_of_getElem? (i := 116) (by decide +kernel)⟩
theorem lw_p1 : lw_okq (⟨"java/lang/Throwable", "fillInStackTrace", "(I)Ljava/lang/Throwable;"⟩, 6) := ⟨⟨by decide +kernel, by decide +kernel⟩, List.mem_of_getElem? (i := 186) (by decide +kernel), List.mem_of_getElem? (i := 184) (by decide +kernel), List.mem_of_getElem? (i := 185) (by decide +kernel)⟩
theorem lw_p2 : lw_okq (⟨"TypeFoundry$Sorts", "empty", "(II)I"⟩, 1) := ⟨⟨by decide +kernel, by decide +kernel⟩, List.mem_of_getElem? (i := 24) (by decide +kernel), List.mem_of_getElem? (i := 285) (by decide +kernel), List.mem_of_getElem? (i := 286) (by decide +kernel)⟩
theorem lw_p3 : lw_okq (⟨"TypeFoundry", "needPrinter", "(I)LTypeFoundry$Printer;"⟩, 11) := ⟨⟨by decide +kernel, by decide +kernel⟩, List.mem_of_getElem? (i := 16) (by decide +kernel), List.mem_of_getElem? (i := 346) (by decide +kernel), List.mem_of_getElem? (i := 347) (by decide +kernel)⟩
theorem lw_p4 : lw_okq (⟨"TypeFoundry$Sorts", "moveAt", "(LTypeFoundry$Sorts;III)I"⟩, 1) := ⟨⟨by decide +kernel, by decide +kernel⟩, List.mem_of_getElem? (i := 24) (by decide +kernel), List.mem_of_getElem? (i := 356) (by decide +kernel), List.mem_of_getElem? (i := 357) (by decide +kernel)⟩
theorem lw_p5 : lw_okq (⟨"TypeFoundry", "needWord", "(I)LTypeFoundry$Word;"⟩, 11) := ⟨⟨by decide +kernel, by decide +kernel⟩, List.mem_of_getElem? (i := 16) (by decide +kernel), List.mem_of_getElem? (i := 390) (by decide +kernel), List.mem_of_getElem? (i := 391) (by decide +kernel)⟩
theorem lw_p6 : lw_okq (⟨"TypeFoundry$Setting", "signFor", "(LTypeFoundry$Word;I)I"⟩, 2) := ⟨⟨by decide +kernel, by decide +kernel⟩, List.mem_of_getElem? (i := 50) (by decide +kernel), List.mem_of_getElem? (i := 416) (by decide +kernel), List.mem_of_getElem? (i := 417) (by decide +kernel)⟩
theorem lw_p7 : lw_okq (⟨"TypeFoundry$Setting", "layTheSameAgain", "()I"⟩, 2) := ⟨⟨by decide +kernel, by decide +kernel⟩, List.mem_of_getElem? (i := 50) (by decide +kernel), List.mem_of_getElem? (i := 553) (by decide +kernel), List.mem_of_getElem? (i := 554) (by decide +kernel)⟩
theorem lw_p8 : lw_okq (⟨"TypeFoundryModel", "no", "(I)I"⟩, 17) := ⟨⟨by decide +kernel, by decide +kernel⟩, List.mem_of_getElem? (i := 559) (by decide +kernel), List.mem_of_getElem? (i := 631) (by decide +kernel), List.mem_of_getElem? (i := 632) (by decide +kernel)⟩
theorem lw_p9 : lw_okq (⟨"TypeFoundryModel", "many", "(II)I"⟩, 17) := ⟨⟨by decide +kernel, by decide +kernel⟩, List.mem_of_getElem? (i := 559) (by decide +kernel), List.mem_of_getElem? (i := 638) (by decide +kernel), List.mem_of_getElem? (i := 639) (by decide +kernel)⟩
theorem lw_p10 : lw_okq (⟨"TypeFoundryModel", "isPrinter", "(I)Z"⟩, 17) := ⟨⟨by decide +kernel, by decide +kernel⟩, List.mem_of_getElem? (i := 559) (by decide +kernel), List.mem_of_getElem? (i := 658) (by decide +kernel), List.mem_of_getElem? (i := 659) (by decide +kernel)⟩
theorem lw_p11 : lw_okq (⟨"TypeFoundryModel", "move", "(IIIII)I"⟩, 17) := ⟨⟨by decide +kernel, by decide +kernel⟩, List.mem_of_getElem? (i := 559) (by decide +kernel), List.mem_of_getElem? (i := 665) (by decide +kernel), List.mem_of_getElem? (i := 666) (by decide +kernel)⟩
theorem lw_p12 : lw_okq (⟨"TypeFoundryModel", "isWord", "(I)Z"⟩, 17) := ⟨⟨by decide +kernel, by decide +kernel⟩, List.mem_of_getElem? (i := 559) (by decide +kernel), List.mem_of_getElem? (i := 682) (by decide +kernel), List.mem_of_getElem? (i := 683) (by decide +kernel)⟩
theorem lw_p13 : lw_okq (⟨"TypeFoundryModel", "look", "(I)V"⟩, 17) := ⟨⟨by decide +kernel, by decide +kernel⟩, List.mem_of_getElem? (i := 559) (by decide +kernel), List.mem_of_getElem? (i := 686) (by decide +kernel), List.mem_of_getElem? (i := 687) (by decide +kernel)⟩
theorem lw_p14 : lw_okq (⟨"TypeFoundryModel", "compose", "()I"⟩, 17) := ⟨⟨by decide +kernel, by decide +kernel⟩, List.mem_of_getElem? (i := 559) (by decide +kernel), List.mem_of_getElem? (i := 690) (by decide +kernel), List.mem_of_getElem? (i := 691) (by decide +kernel)⟩
theorem lw_p15 : lw_okq (⟨"TypeFoundryModel", "ligature", "(I)I"⟩, 17) := ⟨⟨by decide +kernel, by decide +kernel⟩, List.mem_of_getElem? (i := 559) (by decide +kernel), List.mem_of_getElem? (i := 695) (by decide +kernel), List.mem_of_getElem? (i := 696) (by decide +kernel)⟩
def lw_privs_1 : List (MethodName × Nat) := [(⟨"TypeFoundry", "number", "(I)I"⟩, 11), (⟨"java/lang/Throwable", "fillInStackTrace", "(I)Ljava/lang/Throwable;"⟩, 6), (⟨"TypeFoundry$Sorts", "empty", "(II)I"⟩, 1), (⟨"TypeFoundry", "needPrinter", "(I)LTypeFoundry$Printer;"⟩, 11), (⟨"TypeFoundry$Sorts", "moveAt", "(LTypeFoundry$Sorts;III)I"⟩, 1), (⟨"TypeFoundry", "needWord", "(I)LTypeFoundry$Word;"⟩, 11), (⟨"TypeFoundry$Setting", "signFor", "(LTypeFoundry$Word;I)I"⟩, 2), (⟨"TypeFoundry$Setting", "layTheSameAgain", "()I"⟩, 2), (⟨"TypeFoundryModel", "no", "(I)I"⟩, 17), (⟨"TypeFoundryModel", "many", "(II)I"⟩, 17), (⟨"TypeFoundryModel", "isPrinter", "(I)Z"⟩, 17), (⟨"TypeFoundryModel", "move", "(IIIII)I"⟩, 17), (⟨"TypeFoundryModel", "isWord", "(I)Z"⟩, 17), (⟨"TypeFoundryModel", "look", "(I)V"⟩, 17), (⟨"TypeFoundryModel", "compose", "()I"⟩, 17), (⟨"TypeFoundryModel", "ligature", "(I)I"⟩, 17)]
theorem lw_r1 : ∀ q ∈ lw_privs_1, lw_okq q := List.forall_mem_cons.mpr ⟨lw_p0, List.forall_mem_cons.mpr ⟨lw_p1, List.forall_mem_cons.mpr ⟨lw_p2, List.forall_mem_cons.mpr ⟨lw_p3, List.forall_mem_cons.mpr ⟨lw_p4, List.forall_mem_cons.mpr ⟨lw_p5, List.forall_mem_cons.mpr ⟨lw_p6, List.forall_mem_cons.mpr ⟨lw_p7, List.forall_mem_cons.mpr ⟨lw_p8, List.forall_mem_cons.mpr ⟨lw_p9, List.forall_mem_cons.mpr ⟨lw_p10, List.forall_mem_cons.mpr ⟨lw_p11, List.forall_mem_cons.mpr ⟨lw_p12, List.forall_mem_cons.mpr ⟨lw_p13, List.forall_mem_cons.mpr ⟨lw_p14, List.forall_mem_cons.mpr ⟨lw_p15, fun _ h => absurd h List.not_mem_nil⟩⟩⟩⟩⟩⟩⟩⟩⟩⟩⟩⟩⟩⟩⟩⟩
theorem lw_p16 : lw_okq (⟨"TypeFoundryModel", "all", "(I)I"⟩, 17) := ⟨⟨by decide +kernel, by decide +kernel⟩, List.mem_of_getElem? (i := 559) (by decide +kernel), List.mem_of_getElem? (i := 702) (by decide +kernel), List.mem_of_getElem? (i := 703) (by decide +kernel)⟩
theorem lw_p17 : lw_okq (⟨"TypeFoundryModel", "told", "(II)I"⟩, 17) := ⟨⟨by decide +kernel, by decide +kernel⟩, List.mem_of_getElem? (i := 559) (by decide +kernel), List.mem_of_getElem? (i := 726) (by decide +kernel), List.mem_of_getElem? (i := 727) (by decide +kernel)⟩
theorem lw_p18 : lw_okq (⟨"TypeFoundryModel", "worn", "(I)I"⟩, 17) := ⟨⟨by decide +kernel, by decide +kernel⟩, List.mem_of_getElem? (i := 559) (by decide +kernel), List.mem_of_getElem? (i := 730) (by decide +kernel), List.mem_of_getElem? (i := 731) (by decide +kernel)⟩
theorem lw_p19 : lw_okq (⟨"TypeFoundryModel", "counted", "(I)I"⟩, 17) := ⟨⟨by decide +kernel, by decide +kernel⟩, List.mem_of_getElem? (i := 559) (by decide +kernel), List.mem_of_getElem? (i := 738) (by decide +kernel), List.mem_of_getElem? (i := 739) (by decide +kernel)⟩
def lw_privs_2 : List (MethodName × Nat) := [(⟨"TypeFoundryModel", "all", "(I)I"⟩, 17), (⟨"TypeFoundryModel", "told", "(II)I"⟩, 17), (⟨"TypeFoundryModel", "worn", "(I)I"⟩, 17), (⟨"TypeFoundryModel", "counted", "(I)I"⟩, 17)]
theorem lw_r2 : ∀ q ∈ lw_privs_2, lw_okq q := List.forall_mem_cons.mpr ⟨lw_p16, List.forall_mem_cons.mpr ⟨lw_p17, List.forall_mem_cons.mpr ⟨lw_p18, List.forall_mem_cons.mpr ⟨lw_p19, fun _ h => absurd h List.not_mem_nil⟩⟩⟩⟩
def lw_privs : List (MethodName × Nat) := lw_privs_1 ++ (lw_privs_2)
def lw_tbl : List Cond := k2_sels lw_privs ++ tables_1
theorem lw_privs_ok : ∀ q ∈ lw_privs, lw_okq q := by
  show ∀ q ∈ lw_privs_1 ++ (lw_privs_2), lw_okq q
  exact List.forall_mem_append.mpr ⟨lw_r1, lw_r2⟩
/-- the streams that the claim lets the run draw from -/
abbrev lw_cs : List Choice := [Jvm.Choice.named "NaN.bits"]
theorem lw_bits : nanBits ∈ lw_cs := by first | decide | exact List.mem_cons_self | simp [lw_cs, nanBits]
-- ===== end of PART A; then your names; then what follows =====
/-! ===== BEGIN words of one list among another's, by their places ===== -/
theorem goodIn_r {big : List Cond} (ws : List Cond) (ps : List Nat) (hp : ws = ps.filterMap (fun i => big[i]?)) (h : ws.all goodWord = true) : GoodIn big ws := by
  intro w hw
  have h1 := List.all_eq_true.mp h w hw
  rw [hp] at hw
  obtain ⟨i, -, hi⟩ := List.mem_filterMap.mp hw
  have hm : w ∈ big := by first | exact List.mem_of_getElem? hi | exact List.getElem?_mem hi
  exact ⟨hm, good_of_word h1⟩
theorem goodIn_app {big a b : List Cond} (ha : GoodIn big a) (hb : GoodIn big b) : GoodIn big (a ++ b) := fun w h => (List.mem_append.mp h).elim (ha w) (hb w)
theorem goodIn_ca {big a b : List Cond} {c : Cond} (ha : GoodIn big (c :: a)) (hb : GoodIn big b) : GoodIn big (c :: (a ++ b)) := fun w h => (List.mem_cons.mp h).elim (fun e => ha w (List.mem_cons.mpr (Or.inl e))) (fun h => (List.mem_append.mp h).elim (fun h => ha w (List.mem_cons.mpr (Or.inr h))) (hb w))
theorem goodIn_sub {big ws : List Cond} (hm : ∀ w ∈ ws, w ∈ big) (h : ws.all goodWord = true) : GoodIn big ws := fun w hw => ⟨hm w hw, good_of_word (List.all_eq_true.mp h w hw)⟩
/-! ===== END ===== -/

/-! ===== BEGIN exceptions that leave a method, and their catching by the caller (launches without stack traces) ===== -/
section VXA
/-! The laws vx_back, vx_callV, vx_callS, vx_callSW, vx_throw0, vx_throwS follow proofs of the library, with one case more: JvmDerived/Free/Laws.lean (Back.of_free), Shelf42/LK1.lean (callV, callS), Shelf/KitTraced.lean (throwNew0V, throwNewS). -/
/-- where a method has thrown q: the class by its name, the cell, what was written, the world -/
def vx_T (XC : String → State → State → Prop) (st : State) (q : Addr) (t : State) (mc ms : Nat) (free : Addr → Prop) : Prop :=
  ∃ (E : String) (ce : Cell) (L : List Loc), XC E st t ∧ t.heap[q]? = some ce ∧ ce.vm = .none ∧ st.vm.findClass E = some ce.cls ∧ st.WarmedH t.vm ∧ st.sameButNew ({ t with vm := st.vm } : State) L mc ms ∧ ∀ z ∈ L, free z.base
def vx_Q (Qc : Array Value → State → Outcome → State → Prop) (XC : String → State → State → Prop) (mc ms : Nat) (free : Addr → Prop) : Array Value → State → Outcome → State → Prop := fun a st o t =>
  (Qc a st o t ∧ ∃ L, FrameEnd st o t L mc ms ∧ ∀ q ∈ L, free q.base) ∨ ∃ q, o = .threw q ∧ vx_T XC st q t mc ms free
/-- a callee that returns or throws -/
def vx_Met (l : Launch) (y : MethodName) (ws : List Cond) (rm : Room) (Pc : Array Value → State → Prop) (Qc : Array Value → State → Outcome → State → Prop) (XC : String → State → State → Prop) (mc ms : Nat) (free : Addr → Prop) : Prop :=
  MetFree l y (headSpec ws rm) Pc (fun _ _ _ _ _ => True) (vx_Q Qc XC mc ms free)
def vx_Post (XC : String → State → State → Prop) (mc ms : Nat) (free : Addr → Prop) : Pt → Array Value → Addr → Pt → Prop := fun A a q B =>
  ∃ (g : JFrame) (mk : MethodId) (t : State) (L : List Loc) (E : String) (ce : Cell), B.U.heap = t.heap ∧ B.U.vm = t.vm ∧ XC E (A.U.calling g mk a) t ∧ t.heap[q]? = some ce ∧ ce.vm = .none ∧ A.U.vm.findClass E = some ce.cls ∧ B.locs = A.locs ++ L ∧ (∀ z ∈ L, free z.base) ∧ B.cells = A.cells + mc ∧ B.slots = A.slots + ms
def vx_Back (l : Launch) (R : Room) (p : Program) (e : Env) (below : List Frame) (s : State) (sargs : Array Value) (y : MethodName) (len W9 : Nat)
    (Pre : Pt → Array Value → Prop) (Post : Pt → Array Value → Option Value → Pt → Prop) (PostX : Pt → Array Value → Addr → Pt → Prop) : Prop :=
  ∀ (m : MethodId) (meth : Method) (c : Code) (A : Pt) (g : JFrame) (ig : Instr) (mk : MethodId) (a : Array Value),
    Stand p l e R s m sargs below meth c A.U A.locs A.cells A.slots → g.method = m → g.locals.size = c.maxLocals → decode c.code g.pc = .ok (ig, len) →
    2 * g.monitorRoom + (g.stack.map fun v => v.category).sum ≤ W9 → A.U.methodNamed? y = some mk → Pre A a →
    (∃ (v : Option Value) (B : Pt), Stand p l e R s m sargs below meth c B.U B.locs B.cells B.slots ∧ Post A a v B ∧
      Steps p.tables e below (doInvoke e (A.U.setTop g) [] mk a).1 (B.U.setTop { g with pc := g.pc + len, stack := v.toList ++ g.stack })) ∨
    (∃ (q : Addr) (B : Pt), Stand p l e R s m sargs below meth c B.U B.locs B.cells B.slots ∧ PostX A a q B ∧
      Steps p.tables e below (doInvoke e (A.U.setTop g) [] mk a).1 ((B.U.setTop g).pushFrame (.throwing q)))
section Payer
variable {l : Launch} {R : Room} {p : Program} {e : Env} {below : List Frame} {s : State} {sargs : Array Value} {y : MethodName} {len W9 : Nat}
theorem vx_back {ws : List Cond} {rm : Room} {Pc : Array Value → State → Prop} {Qc : Array Value → State → Outcome → State → Prop} {XC : String → State → State → Prop} {mc ms : Nat} {free : Addr → Prop} {bytes : ByteArray} {maxL : Nat} {ret : Option FieldType}
    (hM : vx_Met l y ws rm Pc Qc XC mc ms free) (hblind : FrameBlind Pc) (hrc : rm.cells = mc) (hrs : rm.slots = ms)
    (hframes : rm.frames + 1 ≤ R.frames) (hlocals : W9 + (maxL + 11) + rm.locals ≤ R.locals)
    (hws : ∀ w ∈ ws, ∀ a' U, s.WarmedH U.vm → w.before a' U = true) (hcode : Cond.code y bytes maxL ret ∈ ws) (hinit : ∀ a' U, s.WarmedH U.vm → (Cond.initialized y.cls).before a' U = true) :
    vx_Back l R p e below s sargs y len W9 (PreOf R mc ms Pc) (PostOf Qc mc ms free) (vx_Post XC mc ms free) := by
  intro m meth c A g ig mk a X hg hsize hdg hW hn hp
  have h1 : (headSpec ws rm).pre.before a A.U = true := atoms_intro fun w hw => hws w hw _ _ X.warmed
  have h2 : (Cond.code y bytes maxL ret).before a A.U = true := hws _ hcode _ _ X.warmed
  have h3 : (Cond.initialized y.cls).before a A.U = true := hinit _ _ X.warmed
  have h4 : A.cells + (headSpec ws rm).room.cells ≤ R.cells := by rw [show (headSpec ws rm).room.cells = mc from hrc]; exact hp.1
  have h5 : A.slots + (headSpec ws rm).room.slots ≤ R.slots := by rw [show (headSpec ws rm).room.slots = ms from hrs]; exact hp.2.1
  have hPc : Pc a (A.U.calling g mk a) := hblind _ _ _ _ hp.2.2
  obtain ⟨U, Ls, c0, s0⟩ := A
  dsimp only [Pt.U, Pt.locs, Pt.cells, Pt.slots] at h1 h2 h3 h4 h5 X hn hPc ⊢
  obtain ⟨methY, cY, hmY, hcY, -, hlY, -, -, -, -⟩ := Cond.code_spec hn h2
  obtain ⟨kY, hkY, -⟩ := className_of_methodNamed hn
  have hinitY : kY.init = .initialized := Cond.initialized_spec (findClass_of_methodNamed hn) hkY h3
  have h : At U g.method c below := by rw [hg]; exact X.here
  have hlocals9 : W9 + (maxL + 11) + (headSpec ws rm).room.locals ≤ R.locals := hlocals
  have happ : (headSpec ws rm).appliesLoose y e.platform (U.calling g mk a) = true :=
    Spec.appliesLoose_calling (g := g) h hdg hn hkY hinitY
      (X.room_calling (g := g) (R' := (headSpec ws rm).room) hsize hmY hcY hframes (by rw [hlY]; omega) h4 h5) h1
  obtain ⟨mid, hmid⟩ := h.above
  have hfr : (U.setTop g).frames = (.java g :: mid) ++ below := by rw [State.frames_setTop' g h.top, hmid]; rfl
  obtain ⟨o, s₂, hsteps, -, hend, hq⟩ := Steps.callFree hM p X.admits X.cas X.clock (acts := []) hfr happ hPc trivial
  have hq' : vx_Q Qc XC mc ms free a (U.calling g mk a) o s₂ := hq
  rw [State.frames_setTop' g h.top] at hend
  obtain ⟨g₀, hg0⟩ := Option.isSome_iff_exists.mp h.top
  obtain ⟨r, hr⟩ := State.topJava?_eq_some.mp hg0
  have hr' : (({ U with heap := s₂.heap, slotsUsed := s₂.slotsUsed } : State).setVm s₂.vm).frames = .java g₀ :: r := hr
  rcases hq' with ⟨hqc, L, hfe, hL⟩ | ⟨q, rfl, E, ce, L, hx, hce, hcv, hcl, hW₂, hsm, hL⟩
  · obtain ⟨⟨v, rfl⟩, hW₂, e2, q2, q3, q4, q5, q6⟩ := id hfe
    have e3 : s₂ = ({ (U.calling g mk a).setFrames s₂.frames with heap := s₂.heap, slotsUsed := s₂.slotsUsed } : State).setVm s₂.vm := by
      have : s₂ = ({ s₂ with vm := (U.calling g mk a).vm } : State).setVm s₂.vm := rfl
      rw [e2] at this
      exact this
    obtain ⟨c₂, i₂, len₂, hc₂, hd₂, hf₂⟩ := hend
    have hW' : U.WarmedH s₂.vm := hW₂
    have hcc : c₂ = c := by
      have h1 : s₂.code? g.method = U.code? g.method := by
        rw [State.code?_eq, State.code?_eq, hW'.alike.method?]
      exact Option.some.inj (hc₂.symm.trans (h1.trans h.code))
    subst hcc
    have hlen : len₂ = len := by rw [hdg] at hd₂; cases hd₂; rfl
    subst hlen
    have hs₂ : s₂ = (({ U with heap := s₂.heap, slotsUsed := s₂.slotsUsed } : State).setVm s₂.vm).setTop { g with pc := g.pc + len₂, stack := v.toList ++ g.stack } := by
      refine e3.trans ?_
      rw [hf₂, State.calling_eq h.top, State.setFrames_setFrames, State.setTop_of_frames _ hr', hr]
      rfl
    have hsame : U.sameButNew ({ U with heap := s₂.heap, slotsUsed := s₂.slotsUsed } : State) L mc ms := by
      refine ⟨?_, q2, q3, q4, q5, q6⟩
      obtain ⟨t, ht, -⟩ := State.frames_cons hr
      show ({ U with heap := s₂.heap, slotsUsed := s₂.slotsUsed } : State) = { U.setFrames U.frames with heap := s₂.heap, slotsUsed := s₂.slotsUsed }
      rw [State.setFrames_self ht]
    subst hg
    refine Or.inl ⟨v, ⟨(({ U with heap := s₂.heap, slotsUsed := s₂.slotsUsed } : State).setVm s₂.vm), Ls ++ L, c0 + mc, s0 + ms⟩,
      ⟨X.admits, X.cas, X.clock, X.frames, X.room, X.hears, X.method, X.code, (X.here.setHeapUsed s₂.heap s₂.slotsUsed).setVm hW'.alike, X.tail, State.WarmedH.trans X.warmed hW', X.limits, X.bytes, X.same.trans (hsame.setVm s.vm)⟩,
      ⟨g, mk, s₂, L, rfl, rfl, hqc, rfl, hL, rfl, rfl⟩, ?_⟩
    show Steps p.tables e below _ ((({ U with heap := s₂.heap, slotsUsed := s₂.slotsUsed } : State).setVm s₂.vm).setTop { g with pc := g.pc + len₂, stack := v.toList ++ g.stack })
    rw [← hs₂]
    exact hsteps
  · obtain ⟨e2, q2, q3, q4, q5, q6⟩ := id hsm
    have e3 : s₂ = ({ (U.calling g mk a).setFrames s₂.frames with heap := s₂.heap, slotsUsed := s₂.slotsUsed } : State).setVm s₂.vm := by
      have : s₂ = ({ s₂ with vm := (U.calling g mk a).vm } : State).setVm s₂.vm := rfl
      rw [e2] at this
      exact this
    have hf₂ : s₂.frames = .throwing q :: .java g :: U.frames.tail := hend
    have hW' : U.WarmedH s₂.vm := hW₂
    have hs₂ : s₂ = ((({ U with heap := s₂.heap, slotsUsed := s₂.slotsUsed } : State).setVm s₂.vm).setTop g).pushFrame (.throwing q) := by
      refine e3.trans ?_
      rw [hf₂, State.calling_eq h.top, State.setFrames_setFrames, State.pushFrame, State.frames_setTop _ hr', State.setTop_of_frames _ hr', State.setFrames_setFrames, hr]
      rfl
    have hsame : U.sameButNew ({ U with heap := s₂.heap, slotsUsed := s₂.slotsUsed } : State) L mc ms := by
      refine ⟨?_, q2, q3, q4, q5, q6⟩
      obtain ⟨t, ht, -⟩ := State.frames_cons hr
      show ({ U with heap := s₂.heap, slotsUsed := s₂.slotsUsed } : State) = { U.setFrames U.frames with heap := s₂.heap, slotsUsed := s₂.slotsUsed }
      rw [State.setFrames_self ht]
    subst hg
    refine Or.inr ⟨q, ⟨(({ U with heap := s₂.heap, slotsUsed := s₂.slotsUsed } : State).setVm s₂.vm), Ls ++ L, c0 + mc, s0 + ms⟩,
      ⟨X.admits, X.cas, X.clock, X.frames, X.room, X.hears, X.method, X.code, (X.here.setHeapUsed s₂.heap s₂.slotsUsed).setVm hW'.alike, X.tail, State.WarmedH.trans X.warmed hW', X.limits, X.bytes, X.same.trans (hsame.setVm s.vm)⟩,
      ⟨g, mk, s₂, L, E, ce, rfl, rfl, hx, hce, hcv, hcl, rfl, hL, rfl, rfl⟩, ?_⟩
    show Steps p.tables e below _ (((({ U with heap := s₂.heap, slotsUsed := s₂.slotsUsed } : State).setVm s₂.vm).setTop g).pushFrame (.throwing q))
    rw [← hs₂]
    exact hsteps
end Payer
section Calls
variable {p : Program} {l : Launch} {e : Env} {R : Room} {s : State} {m : MethodId} {args : Array Value} {below : List Frame} {meth : Method} {c : Code} {T : State} {locs : List Loc} {cells slots : Nat}
theorem vx_callV (X : Stand p l e R s m args below meth c T locs cells slots) (hexec : p.tables.exec = Jvm.exec) {own C : String} {index : Nat} {y : MethodName} {bytes : ByteArray} {maxL : Nat} {ret : Option FieldType}
    (hown : s.vm.findClass own = some m.cls) (hlink : (Cond.methodLink own index y).before args s = true) (hinst : (Cond.instanceMethod y).before args s = true) (hsel : (Cond.selects C y y).before args s = true)
    (hcode : (Cond.code y bytes maxL ret).before args s = true) (hy : y.cls ≠ "java/lang/invoke/MethodHandle" ∧ y.cls ≠ "java/lang/invoke/VarHandle")
    {W9 : Nat} {Pre : Pt → Array Value → Prop} {Post : Pt → Array Value → Option Value → Pt → Prop} {PostX : Pt → Array Value → Addr → Pt → Prop} (hK : vx_Back l R p e below s args y 3 W9 Pre Post PostX)
    {b : Addr} {cellB : Cell} (hcell : T.heap[b]? = some cellB) (hobj : cellB.vm.isStatics = false) (hcls : s.vm.findClass C = some cellB.cls)
    {g : JFrame} (hg : g.method = m) (hsize : g.locals.size = c.maxLocals) {argsL rest : List Value} (hlen : ∀ sig, parseMethodDescriptor y.desc = some sig → argsL.length = sig.parameters.length)
    (hstack : g.stack = argsL.reverse ++ .ref b :: rest) (hW : 2 * g.monitorRoom + (rest.map fun v => v.category).sum ≤ W9) (hdg : decode c.code g.pc = .ok (.invokevirtual index, 3))
    (hpre : ∀ vm₁, s.WarmedH vm₁ → Pre ⟨T.setVm vm₁, locs, cells, slots⟩ (Value.ref b :: argsL).toArray) :
    (∃ (v : Option Value) (vm₁ : Vm) (B : Pt), s.WarmedH vm₁ ∧ Stand p l e R s m args below meth c B.U B.locs B.cells B.slots ∧ Post ⟨T.setVm vm₁, locs, cells, slots⟩ (Value.ref b :: argsL).toArray v B ∧
      ∀ target, Steps p.tables e below (B.U.setTop { g with pc := g.pc + 3, stack := v.toList ++ rest }) target → Steps p.tables e below (T.setTop g) target) ∨
    (∃ (q : Addr) (vm₁ : Vm) (B : Pt), s.WarmedH vm₁ ∧ Stand p l e R s m args below meth c B.U B.locs B.cells B.slots ∧ PostX ⟨T.setVm vm₁, locs, cells, slots⟩ (Value.ref b :: argsL).toArray q B ∧
      Steps p.tables e below (T.setTop g) ((B.U.setTop { g with stack := rest }).pushFrame (.throwing q))) := by
  obtain ⟨mk, methM, hnamed, hmethM, hstM, habM⟩ := Cond.instanceMethod_spec hinst
  obtain ⟨methM', cM, hmethM', -, -, -, -, -, -, hsigM⟩ := Cond.code_spec hnamed hcode
  cases hmethM.symm.trans hmethM'
  obtain ⟨c2, r2, m2, q1, q2, q3, q4, kP, hkP, hkPi⟩ := Cond.selects_spec hsel
  cases hcls.symm.trans q1
  cases (State.methodFound?_of_named hnamed hy).symm.trans q2
  cases hnamed.symm.trans q3
  have hselP : selectMethod e.platform s.vm cellB.cls mk = .method mk := by rw [Launch.admits_selectMethod X.admits]; exact q4
  obtain ⟨vm₁, X₁, hstep₁⟩ := X.invokevirtual hexec hown hlink hnamed hmethM hstM hkP hkPi hy (a := b) (cell := cellB) hcell
    (fun z h => by rw [h] at hobj; cases hobj) hselP hmethM habM hkP hkPi (g := g) hg (argsL := argsL) (rest := rest) (hlen _ hsigM) hstack hdg
  rcases hK m meth c ⟨T.setVm vm₁, locs, cells, slots⟩ { g with stack := rest } (.invokevirtual index) mk (Value.ref b :: argsL).toArray X₁ hg hsize hdg hW (X₁.named hnamed) (hpre vm₁ X₁.warmed) with ⟨v, B, X', hpost, hsteps⟩ | ⟨q, B, X', hpost, hsteps⟩
  · exact Or.inl ⟨v, vm₁, B, X₁.warmed, X', hpost, fun target h => hstep₁ _ fun acts => by rw [doInvoke_state]; exact hsteps.trans h⟩
  · exact Or.inr ⟨q, vm₁, B, X₁.warmed, X', hpost, hstep₁ _ fun acts => by rw [doInvoke_state]; exact hsteps⟩
theorem vx_callS (X : Stand p l e R s m args below meth c T locs cells slots) (hexec : p.tables.exec = Jvm.exec) {own : String} {index : Nat} {y : MethodName} {bytes : ByteArray} {maxL : Nat} {ret : Option FieldType}
    (hown : s.vm.findClass own = some m.cls) (hlink : (Cond.methodLink own index y).before args s = true) (hstat : (Cond.static y).before args s = true) (hinit : (Cond.initialized y.cls).before args s = true)
    (hcode : (Cond.code y bytes maxL ret).before args s = true) (hy : y.cls ≠ "java/lang/invoke/MethodHandle" ∧ y.cls ≠ "java/lang/invoke/VarHandle")
    {W9 : Nat} {Pre : Pt → Array Value → Prop} {Post : Pt → Array Value → Option Value → Pt → Prop} {PostX : Pt → Array Value → Addr → Pt → Prop} (hK : vx_Back l R p e below s args y 3 W9 Pre Post PostX)
    {g : JFrame} (hg : g.method = m) (hsize : g.locals.size = c.maxLocals) {argsL rest : List Value} (hlen : ∀ sig, parseMethodDescriptor y.desc = some sig → argsL.length = sig.parameters.length)
    (hstack : g.stack = argsL.reverse ++ rest) (hW : 2 * g.monitorRoom + (rest.map fun v => v.category).sum ≤ W9) (hdg : decode c.code g.pc = .ok (.invokestatic index, 3))
    (hpre : ∀ vm₁, s.WarmedH vm₁ → Pre ⟨T.setVm vm₁, locs, cells, slots⟩ argsL.toArray) :
    (∃ (v : Option Value) (vm₁ : Vm) (B : Pt), s.WarmedH vm₁ ∧ Stand p l e R s m args below meth c B.U B.locs B.cells B.slots ∧ Post ⟨T.setVm vm₁, locs, cells, slots⟩ argsL.toArray v B ∧
      ∀ target, Steps p.tables e below (B.U.setTop { g with pc := g.pc + 3, stack := v.toList ++ rest }) target → Steps p.tables e below (T.setTop g) target) ∨
    (∃ (q : Addr) (vm₁ : Vm) (B : Pt), s.WarmedH vm₁ ∧ Stand p l e R s m args below meth c B.U B.locs B.cells B.slots ∧ PostX ⟨T.setVm vm₁, locs, cells, slots⟩ argsL.toArray q B ∧
      Steps p.tables e below (T.setTop g) ((B.U.setTop { g with stack := rest }).pushFrame (.throwing q))) := by
  obtain ⟨mk, hnamed⟩ := Cond.code_named hcode
  obtain ⟨methM, cM, hmethM, -, -, -, -, -, -, hsigM⟩ := Cond.code_spec hnamed hcode
  have hstatic : methM.isStatic = true := Cond.static_spec hnamed hmethM hstat
  obtain ⟨kP, hkP, -⟩ := className_of_methodNamed hnamed
  have hinitP : kP.init = .initialized := Cond.initialized_spec (findClass_of_methodNamed hnamed) hkP hinit
  obtain ⟨vm₁, X₁, hstep₁⟩ := X.invokestatic hexec hown hlink hnamed hmethM hstatic hkP hinitP hy (g := g) hg (argsL := argsL) (rest := rest) (hlen _ hsigM) hstack hdg
  rcases hK m meth c ⟨T.setVm vm₁, locs, cells, slots⟩ { g with stack := rest } (.invokestatic index) mk argsL.toArray X₁ hg hsize hdg hW (X₁.named hnamed) (hpre vm₁ X₁.warmed) with ⟨v, B, X', hpost, hsteps⟩ | ⟨q, B, X', hpost, hsteps⟩
  · exact Or.inl ⟨v, vm₁, B, X₁.warmed, X', hpost, fun target h => hstep₁ _ fun acts => by rw [doInvoke_state]; exact hsteps.trans h⟩
  · exact Or.inr ⟨q, vm₁, B, X₁.warmed, X', hpost, hstep₁ _ fun acts => by rw [doInvoke_state]; exact hsteps⟩
end Calls
theorem vx_cls {s : State} {T : State} {vm₁ : Vm} {E : String} {k : ClassId} (hW : s.WarmedH vm₁) (h : (T.setVm vm₁).vm.findClass E = some k) : s.vm.findClass E = some k := by
  have h1 : vm₁.findClass E = some k := h
  rw [hW.alike.findClass] at h1
  exact h1
/-- the method's frame g, with q thrown over it -/
def vx_W (p : Program) (l : Launch) (e : Env) (R : Room) (s : State) (m : MethodId) (args : Array Value) (below : List Frame) (meth : Method) (c : Code) (H : Heap) (locs : List Loc) (cells slots : Nat) (Q : State → Prop) (g : JFrame) (q : Addr) : Prop :=
  ∀ T : State, T.heap = H → Stand p l e R s m args below meth c T locs cells slots → ∃ t, Steps p.tables e below ((T.setTop g).pushFrame (.throwing q)) t ∧ Q t
def vx_Run (p : Program) (l : Launch) (e : Env) (R : Room) (s : State) (m : MethodId) (args : Array Value) (below : List Frame) (meth : Method) (c : Code) (H : Heap) (locs : List Loc) (cells slots mc ms : Nat) (g : JFrame) (rest : List Value) (Qa : State → Outcome → State → Prop) (XC : String → State → State → Prop) (free : Addr → Prop) : Prop :=
  ∀ T : State, T.heap = H → Stand p l e R s m args below meth c T locs cells slots →
    (∃ (v : Option Value) (st₀ t T' : State) (L : List Loc), st₀.heap = H ∧ Stand p l e R s m args below meth c T' (locs ++ L) (cells + mc) (slots + ms) ∧ (∀ q ∈ L, free q.base) ∧ T'.heap = t.heap ∧ T'.vm = t.vm ∧ Qa st₀ (.returned v) t ∧
      Goes p e below T g T' { g with pc := g.pc + 3, stack := v.toList ++ rest }) ∨
    (∃ (q : Addr) (st₀ t T' : State) (L : List Loc) (E : String) (ce : Cell), st₀.heap = H ∧ Stand p l e R s m args below meth c T' (locs ++ L) (cells + mc) (slots + ms) ∧ (∀ z ∈ L, free z.base) ∧ T'.heap = t.heap ∧ T'.vm = t.vm ∧ XC E st₀ t ∧ t.heap[q]? = some ce ∧ ce.vm = .none ∧ s.vm.findClass E = some ce.cls ∧
      Steps p.tables e below (T.setTop g) ((T'.setTop { g with stack := rest }).pushFrame (.throwing q)))
def vx_X {S : Type} (px : S → Prop) (B : String → S → State → Prop) (A : Nat → Prop) : String → State → State → Prop := fun E st t => ∃ u : S, px u ∧ B E u t ∧ va_F A st t
section Runs
variable {p : Program} {l : Launch} {e : Env} {R : Room} {s : State} {m : MethodId} {args : Array Value} {below : List Frame} {meth : Method} {c : Code} {H : Heap} {locs : List Loc} {cells slots : Nat}
variable {y : MethodName} {bytes cc : ByteArray} {maxL nL mc ms n index : Nat} {ret : Option FieldType} {ws : List Cond} {rm : Room} {Pc : Array Value → State → Prop} {Qc : Array Value → State → Outcome → State → Prop} {XC : String → State → State → Prop} {free : Addr → Prop} {Ts : List Cond} {own C : String} {b : Addr} {As rest : List Value} {g : JFrame}
theorem vx_callBack (cb : CallB R s args own index y bytes maxL ret ws rm mc ms n) (hM : vx_Met l y ws rm Pc Qc XC mc ms free) (hbl : FrameBlind Pc) : vx_Back l R p e below s args y 3 8 (PreOf R mc ms Pc) (PostOf Qc mc ms free) (vx_Post XC mc ms free) := by
  obtain ⟨hrc, hrs, hfr, hlo, hws, hcw, -, hini, -⟩ := cb
  exact vx_back (bytes := bytes) (maxL := maxL) (ret := ret) hM hbl hrc hrs hfr hlo hws hcw (fun a' U hW => word_at hW (Or.inl (by first | rfl | simp [Cond.onTables, Cond.keeps, Cond.steady])) hini)
theorem vx_runV (S : CallFix p m c cc nL s args Ts own) (hM : vx_Met l y ws rm Pc Qc XC mc ms free) (cw : CallW R s args own C index y bytes maxL ret ws rm mc ms n) (hp : PreV s H C b Pc As)
    (hg : g.method = m) (hn : As.length = n) (hsize : g.locals.size = nL) (hstack : g.stack = As.reverse ++ .ref b :: rest) (hW : 2 * g.monitorRoom + (rest.map fun v => v.category).sum ≤ 8) (hdg : decode cc g.pc = .ok (.invokevirtual index, 3)) (hf : cells + mc ≤ R.cells ∧ slots + ms ≤ R.slots) :
    vx_Run p l e R s m args below meth c H locs cells slots mc ms g rest (Qc (Value.ref b :: As).toArray) XC free := by
  have hK : vx_Back l R p e below s args y 3 8 (PreOf R mc ms Pc) (PostOf Qc mc ms free) (vx_Post XC mc ms free) := vx_callBack cw.1 hM hp.1
  obtain ⟨⟨-, -, -, -, -, -, hcode, -, hy, hlen, hl⟩, hin, hse⟩ := cw
  obtain ⟨hx, hb, hml, ho, -⟩ := S
  obtain ⟨-, ⟨cellB, hcB, hoB, hclB⟩, hPc⟩ := hp
  intro T hT X
  rcases vx_callV X hx (C := C) (bytes := bytes) (maxL := maxL) (ret := ret) ho hl hin hse hcode hy hK (by rw [hT]; exact hcB) hoB hclB hg (hsize.trans hml.symm) (argsL := As) (rest := rest) (fun sig h => hn.trans (hlen sig h)) hstack hW (by rw [hb]; exact hdg)
    (fun vm₁ hW₁ => ⟨hf.1, hf.2, hPc (T.setVm vm₁) hT hW₁⟩) with ⟨v, vm₁, ⟨U', l2, c2, s2⟩, hW₁, X', ⟨g', mk, t, L, e1, e2, hq, h1, hL, h2, h3⟩, st⟩ | ⟨q, vm₁, ⟨U', l2, c2, s2⟩, hW₁, X', ⟨g', mk, t, L, E, ce, e1, e2, hq, hce, hcv, hcl, h1, hL, h2, h3⟩, st⟩
  · dsimp only [Pt.U, Pt.locs, Pt.cells, Pt.slots] at X' e1 e2 h1 h2 h3 st
    subst h1; subst h2; subst h3
    exact Or.inl ⟨v, (T.setVm vm₁).calling g' mk (Value.ref b :: As).toArray, t, U', L, hT, X', hL, e1, e2, hq, st⟩
  · dsimp only [Pt.U, Pt.locs, Pt.cells, Pt.slots] at X' e1 e2 h1 h2 h3 st hcl
    subst h1; subst h2; subst h3
    exact Or.inr ⟨q, (T.setVm vm₁).calling g' mk (Value.ref b :: As).toArray, t, U', L, E, ce, hT, X', hL, e1, e2, hq, hce, hcv, vx_cls hW₁ hcl, st⟩
theorem vx_runS (S : CallFix p m c cc nL s args Ts own) (hM : vx_Met l y ws rm Pc Qc XC mc ms free) (cw : CallB R s args own index y bytes maxL ret ws rm mc ms n ∧ (Cond.static y).before args s = true) (hp : PreS s H Pc As)
    (hg : g.method = m) (hn : As.length = n) (hsize : g.locals.size = nL) (hstack : g.stack = As.reverse ++ rest) (hW : 2 * g.monitorRoom + (rest.map fun v => v.category).sum ≤ 8) (hdg : decode cc g.pc = .ok (.invokestatic index, 3)) (hf : cells + mc ≤ R.cells ∧ slots + ms ≤ R.slots) :
    vx_Run p l e R s m args below meth c H locs cells slots mc ms g rest (Qc As.toArray) XC free := by
  have hK : vx_Back l R p e below s args y 3 8 (PreOf R mc ms Pc) (PostOf Qc mc ms free) (vx_Post XC mc ms free) := vx_callBack cw.1 hM hp.1
  obtain ⟨⟨-, -, -, -, -, -, hcode, hini, hy, hlen, hl⟩, hstt⟩ := cw
  obtain ⟨hx, hb, hml, ho, -⟩ := S
  intro T hT X
  rcases vx_callS X hx (bytes := bytes) (maxL := maxL) (ret := ret) ho hl hstt hini hcode hy hK hg (hsize.trans hml.symm) (argsL := As) (rest := rest) (fun sig h => hn.trans (hlen sig h)) hstack hW (by rw [hb]; exact hdg)
    (fun vm₁ hW₁ => ⟨hf.1, hf.2, hp.2 (T.setVm vm₁) hT hW₁⟩) with ⟨v, vm₁, ⟨U', l2, c2, s2⟩, hW₁, X', ⟨g', mk, t, L, e1, e2, hq, h1, hL, h2, h3⟩, st⟩ | ⟨q, vm₁, ⟨U', l2, c2, s2⟩, hW₁, X', ⟨g', mk, t, L, E, ce, e1, e2, hq, hce, hcv, hcl, h1, hL, h2, h3⟩, st⟩
  · dsimp only [Pt.U, Pt.locs, Pt.cells, Pt.slots] at X' e1 e2 h1 h2 h3 st
    subst h1; subst h2; subst h3
    exact Or.inl ⟨v, (T.setVm vm₁).calling g' mk As.toArray, t, U', L, hT, X', hL, e1, e2, hq, st⟩
  · dsimp only [Pt.U, Pt.locs, Pt.cells, Pt.slots] at X' e1 e2 h1 h2 h3 st hcl
    subst h1; subst h2; subst h3
    exact Or.inr ⟨q, (T.setVm vm₁).calling g' mk As.toArray, t, U', L, E, ce, hT, X', hL, e1, e2, hq, hce, hcv, vx_cls hW₁ hcl, st⟩
end Runs
section Rows
variable {p : Program} {l : Launch} {e : Env} {R : Room} {s : State} {m : MethodId} {args : Array Value} {below : List Frame} {meth : Method} {c : Code} {H : Heap} {locs : List Loc} {cells slots : Nat} {Q : State → Prop}
variable {mc ms : Nat} {free : Addr → Prop} {A0 A1 : Nat → Prop} {H0 : Heap} {a : Array Value} {pc : Nat} {ls : Array Slot} {st0 rest : List Value}
theorem vx_keep {st₀ t T' : State} {L : List Loc} (h0 : st₀.heap = H) (e1 : T'.heap = t.heap) (hS : va_S A0 H0 H locs) (hA : ∀ q, q < H.size → A1 q → A0 q) (hf : ∀ q, free q → A0 q) (hL : ∀ q ∈ L, free q.base) (hF : va_F A1 st₀ t) :
    H.size ≤ T'.heap.size ∧ (∀ q : Nat, q < H.size → ¬ A1 q → T'.heap[q]? = H[q]?) ∧ va_S A0 H0 T'.heap (locs ++ L) := by
  obtain ⟨hz, hk⟩ := hF
  rw [h0] at hz hk
  exact ⟨by rw [e1]; exact hz, fun q h1 h2 => by rw [e1]; exact hk q h1 h2,
    ⟨Nat.le_trans hS.1 (by rw [e1]; exact hz), fun q h1 h2 => by rw [e1, hk q (Nat.lt_of_lt_of_le h1 hS.1) (fun z => h2 (hA q (Nat.lt_of_lt_of_le h1 hS.1) z))]; exact hS.2.1 q h1 h2, fun q hq => by
      rcases List.mem_append.mp hq with h | h
      · exact hS.2.2 q h
      · exact hf _ (hL q h)⟩⟩
theorem vx_calli {S SX : Type} {post : Int32 → S → Prop} {px : SX → Prop} {B : S → State → Prop} {BX : String → SX → State → Prop} {AX : Nat → Prop} (hr : vx_Run p l e R s m args below meth c H locs cells slots mc ms (F0 m pc ls st0) rest (va_Qi post B A1 a) (vx_X px BX AX) free) (hS : va_S A0 H0 H locs) (hA : ∀ q, q < H.size → A1 q → A0 q) (hf : ∀ q, free q → A0 q) (hAX : ∀ q, q < H.size → AX q → A0 q)
    (kx : ∀ (E : String) (ce : Cell) (q9 : Addr) (u : SX) (t : State) (H1 : Heap) (locs1 : List Loc), t.heap = H1 → s.vm.Alike t.vm → px u → BX E u t → H.size ≤ H1.size → (∀ q : Nat, q < H.size → ¬ AX q → H1[q]? = H[q]?) → va_S A0 H0 H1 locs1 → H1[q9]? = some ce → ce.vm = .none → s.vm.findClass E = some ce.cls → vx_W p l e R s m args below meth c H1 locs1 (cells + mc) (slots + ms) Q (F0 m pc ls rest) q9)
    (kk : ∀ (r : Int32) (u : S) (t : State) (H1 : Heap) (locs1 : List Loc), t.heap = H1 → s.vm.Alike t.vm → post r u → B u t → H.size ≤ H1.size → (∀ q : Nat, q < H.size → ¬ A1 q → H1[q]? = H[q]?) → va_S A0 H0 H1 locs1 → W p l e R s m args below meth c H1 locs1 (cells + mc) (slots + ms) Q (F0 m (pc + 3) ls (.int r :: rest))) : W p l e R s m args below meth c H locs cells slots Q (F0 m pc ls st0) := by
  intro T hT X
  rcases hr T hT X with ⟨v, st₀, t, T', L, h0, X', hL, e1, e2, ⟨⟨r, u, hv, hp, hb⟩, hF⟩, st⟩ | ⟨q, st₀, t, T', L, E, ce, h0, X', hL, e1, e2, ⟨u, hp, hb, hF⟩, hce, hcv, hcl, st⟩
  · cases hv
    obtain ⟨k1, k2, k3⟩ := vx_keep h0 e1 hS hA hf hL hF
    obtain ⟨t2, a1, b1⟩ := kk r u t T'.heap (locs ++ L) e1.symm (by rw [← e2]; exact X'.warmed.alike) hp hb k1 k2 k3 T' rfl X'
    exact ⟨t2, st t2 a1, b1⟩
  · obtain ⟨k1, k2, k3⟩ := vx_keep h0 e1 hS hAX hf hL hF
    obtain ⟨t2, a1, b1⟩ := kx E ce q u t T'.heap (locs ++ L) e1.symm (by rw [← e2]; exact X'.warmed.alike) hp hb k1 k2 k3 (by rw [e1]; exact hce) hcv hcl T' rfl X'
    exact ⟨t2, st.trans a1, b1⟩
theorem vx_calll {S SX : Type} {post : Int64 → S → Prop} {px : SX → Prop} {B : S → State → Prop} {BX : String → SX → State → Prop} {AX : Nat → Prop} (hr : vx_Run p l e R s m args below meth c H locs cells slots mc ms (F0 m pc ls st0) rest (va_Ql post B A1 a) (vx_X px BX AX) free) (hS : va_S A0 H0 H locs) (hA : ∀ q, q < H.size → A1 q → A0 q) (hf : ∀ q, free q → A0 q) (hAX : ∀ q, q < H.size → AX q → A0 q)
    (kx : ∀ (E : String) (ce : Cell) (q9 : Addr) (u : SX) (t : State) (H1 : Heap) (locs1 : List Loc), t.heap = H1 → s.vm.Alike t.vm → px u → BX E u t → H.size ≤ H1.size → (∀ q : Nat, q < H.size → ¬ AX q → H1[q]? = H[q]?) → va_S A0 H0 H1 locs1 → H1[q9]? = some ce → ce.vm = .none → s.vm.findClass E = some ce.cls → vx_W p l e R s m args below meth c H1 locs1 (cells + mc) (slots + ms) Q (F0 m pc ls rest) q9)
    (kk : ∀ (r : Int64) (u : S) (t : State) (H1 : Heap) (locs1 : List Loc), t.heap = H1 → s.vm.Alike t.vm → post r u → B u t → H.size ≤ H1.size → (∀ q : Nat, q < H.size → ¬ A1 q → H1[q]? = H[q]?) → va_S A0 H0 H1 locs1 → W p l e R s m args below meth c H1 locs1 (cells + mc) (slots + ms) Q (F0 m (pc + 3) ls (.long r :: rest))) : W p l e R s m args below meth c H locs cells slots Q (F0 m pc ls st0) := by
  intro T hT X
  rcases hr T hT X with ⟨v, st₀, t, T', L, h0, X', hL, e1, e2, ⟨⟨r, u, hv, hp, hb⟩, hF⟩, st⟩ | ⟨q, st₀, t, T', L, E, ce, h0, X', hL, e1, e2, ⟨u, hp, hb, hF⟩, hce, hcv, hcl, st⟩
  · cases hv
    obtain ⟨k1, k2, k3⟩ := vx_keep h0 e1 hS hA hf hL hF
    obtain ⟨t2, a1, b1⟩ := kk r u t T'.heap (locs ++ L) e1.symm (by rw [← e2]; exact X'.warmed.alike) hp hb k1 k2 k3 T' rfl X'
    exact ⟨t2, st t2 a1, b1⟩
  · obtain ⟨k1, k2, k3⟩ := vx_keep h0 e1 hS hAX hf hL hF
    obtain ⟨t2, a1, b1⟩ := kx E ce q u t T'.heap (locs ++ L) e1.symm (by rw [← e2]; exact X'.warmed.alike) hp hb k1 k2 k3 (by rw [e1]; exact hce) hcv hcl T' rfl X'
    exact ⟨t2, st.trans a1, b1⟩
theorem vx_callf {S SX : Type} {post : UInt32 → S → Prop} {px : SX → Prop} {B : S → State → Prop} {BX : String → SX → State → Prop} {AX : Nat → Prop} (hr : vx_Run p l e R s m args below meth c H locs cells slots mc ms (F0 m pc ls st0) rest (va_Qf post B A1 a) (vx_X px BX AX) free) (hS : va_S A0 H0 H locs) (hA : ∀ q, q < H.size → A1 q → A0 q) (hf : ∀ q, free q → A0 q) (hAX : ∀ q, q < H.size → AX q → A0 q)
    (kx : ∀ (E : String) (ce : Cell) (q9 : Addr) (u : SX) (t : State) (H1 : Heap) (locs1 : List Loc), t.heap = H1 → s.vm.Alike t.vm → px u → BX E u t → H.size ≤ H1.size → (∀ q : Nat, q < H.size → ¬ AX q → H1[q]? = H[q]?) → va_S A0 H0 H1 locs1 → H1[q9]? = some ce → ce.vm = .none → s.vm.findClass E = some ce.cls → vx_W p l e R s m args below meth c H1 locs1 (cells + mc) (slots + ms) Q (F0 m pc ls rest) q9)
    (kk : ∀ (r : UInt32) (u : S) (t : State) (H1 : Heap) (locs1 : List Loc), t.heap = H1 → s.vm.Alike t.vm → post r u → B u t → H.size ≤ H1.size → (∀ q : Nat, q < H.size → ¬ A1 q → H1[q]? = H[q]?) → va_S A0 H0 H1 locs1 → W p l e R s m args below meth c H1 locs1 (cells + mc) (slots + ms) Q (F0 m (pc + 3) ls (.float r :: rest))) : W p l e R s m args below meth c H locs cells slots Q (F0 m pc ls st0) := by
  intro T hT X
  rcases hr T hT X with ⟨v, st₀, t, T', L, h0, X', hL, e1, e2, ⟨⟨r, u, hv, hp, hb⟩, hF⟩, st⟩ | ⟨q, st₀, t, T', L, E, ce, h0, X', hL, e1, e2, ⟨u, hp, hb, hF⟩, hce, hcv, hcl, st⟩
  · cases hv
    obtain ⟨k1, k2, k3⟩ := vx_keep h0 e1 hS hA hf hL hF
    obtain ⟨t2, a1, b1⟩ := kk r u t T'.heap (locs ++ L) e1.symm (by rw [← e2]; exact X'.warmed.alike) hp hb k1 k2 k3 T' rfl X'
    exact ⟨t2, st t2 a1, b1⟩
  · obtain ⟨k1, k2, k3⟩ := vx_keep h0 e1 hS hAX hf hL hF
    obtain ⟨t2, a1, b1⟩ := kx E ce q u t T'.heap (locs ++ L) e1.symm (by rw [← e2]; exact X'.warmed.alike) hp hb k1 k2 k3 (by rw [e1]; exact hce) hcv hcl T' rfl X'
    exact ⟨t2, st.trans a1, b1⟩
theorem vx_calld {S SX : Type} {post : UInt64 → S → Prop} {px : SX → Prop} {B : S → State → Prop} {BX : String → SX → State → Prop} {AX : Nat → Prop} (hr : vx_Run p l e R s m args below meth c H locs cells slots mc ms (F0 m pc ls st0) rest (va_Qd post B A1 a) (vx_X px BX AX) free) (hS : va_S A0 H0 H locs) (hA : ∀ q, q < H.size → A1 q → A0 q) (hf : ∀ q, free q → A0 q) (hAX : ∀ q, q < H.size → AX q → A0 q)
    (kx : ∀ (E : String) (ce : Cell) (q9 : Addr) (u : SX) (t : State) (H1 : Heap) (locs1 : List Loc), t.heap = H1 → s.vm.Alike t.vm → px u → BX E u t → H.size ≤ H1.size → (∀ q : Nat, q < H.size → ¬ AX q → H1[q]? = H[q]?) → va_S A0 H0 H1 locs1 → H1[q9]? = some ce → ce.vm = .none → s.vm.findClass E = some ce.cls → vx_W p l e R s m args below meth c H1 locs1 (cells + mc) (slots + ms) Q (F0 m pc ls rest) q9)
    (kk : ∀ (r : UInt64) (u : S) (t : State) (H1 : Heap) (locs1 : List Loc), t.heap = H1 → s.vm.Alike t.vm → post r u → B u t → H.size ≤ H1.size → (∀ q : Nat, q < H.size → ¬ A1 q → H1[q]? = H[q]?) → va_S A0 H0 H1 locs1 → W p l e R s m args below meth c H1 locs1 (cells + mc) (slots + ms) Q (F0 m (pc + 3) ls (.double r :: rest))) : W p l e R s m args below meth c H locs cells slots Q (F0 m pc ls st0) := by
  intro T hT X
  rcases hr T hT X with ⟨v, st₀, t, T', L, h0, X', hL, e1, e2, ⟨⟨r, u, hv, hp, hb⟩, hF⟩, st⟩ | ⟨q, st₀, t, T', L, E, ce, h0, X', hL, e1, e2, ⟨u, hp, hb, hF⟩, hce, hcv, hcl, st⟩
  · cases hv
    obtain ⟨k1, k2, k3⟩ := vx_keep h0 e1 hS hA hf hL hF
    obtain ⟨t2, a1, b1⟩ := kk r u t T'.heap (locs ++ L) e1.symm (by rw [← e2]; exact X'.warmed.alike) hp hb k1 k2 k3 T' rfl X'
    exact ⟨t2, st t2 a1, b1⟩
  · obtain ⟨k1, k2, k3⟩ := vx_keep h0 e1 hS hAX hf hL hF
    obtain ⟨t2, a1, b1⟩ := kx E ce q u t T'.heap (locs ++ L) e1.symm (by rw [← e2]; exact X'.warmed.alike) hp hb k1 k2 k3 (by rw [e1]; exact hce) hcv hcl T' rfl X'
    exact ⟨t2, st.trans a1, b1⟩
theorem vx_callv {S SX : Type} {post : S → Prop} {px : SX → Prop} {B : S → State → Prop} {BX : String → SX → State → Prop} {AX : Nat → Prop} (hr : vx_Run p l e R s m args below meth c H locs cells slots mc ms (F0 m pc ls st0) rest (va_Qv post B A1 a) (vx_X px BX AX) free) (hS : va_S A0 H0 H locs) (hA : ∀ q, q < H.size → A1 q → A0 q) (hf : ∀ q, free q → A0 q) (hAX : ∀ q, q < H.size → AX q → A0 q)
    (kx : ∀ (E : String) (ce : Cell) (q9 : Addr) (u : SX) (t : State) (H1 : Heap) (locs1 : List Loc), t.heap = H1 → s.vm.Alike t.vm → px u → BX E u t → H.size ≤ H1.size → (∀ q : Nat, q < H.size → ¬ AX q → H1[q]? = H[q]?) → va_S A0 H0 H1 locs1 → H1[q9]? = some ce → ce.vm = .none → s.vm.findClass E = some ce.cls → vx_W p l e R s m args below meth c H1 locs1 (cells + mc) (slots + ms) Q (F0 m pc ls rest) q9)
    (kk : ∀ (u : S) (t : State) (H1 : Heap) (locs1 : List Loc), t.heap = H1 → s.vm.Alike t.vm → post u → B u t → H.size ≤ H1.size → (∀ q : Nat, q < H.size → ¬ A1 q → H1[q]? = H[q]?) → va_S A0 H0 H1 locs1 → W p l e R s m args below meth c H1 locs1 (cells + mc) (slots + ms) Q (F0 m (pc + 3) ls (rest))) : W p l e R s m args below meth c H locs cells slots Q (F0 m pc ls st0) := by
  intro T hT X
  rcases hr T hT X with ⟨v, st₀, t, T', L, h0, X', hL, e1, e2, ⟨⟨u, hv, hp, hb⟩, hF⟩, st⟩ | ⟨q, st₀, t, T', L, E, ce, h0, X', hL, e1, e2, ⟨u, hp, hb, hF⟩, hce, hcv, hcl, st⟩
  · cases hv
    obtain ⟨k1, k2, k3⟩ := vx_keep h0 e1 hS hA hf hL hF
    obtain ⟨t2, a1, b1⟩ := kk u t T'.heap (locs ++ L) e1.symm (by rw [← e2]; exact X'.warmed.alike) hp hb k1 k2 k3 T' rfl X'
    exact ⟨t2, st t2 a1, b1⟩
  · obtain ⟨k1, k2, k3⟩ := vx_keep h0 e1 hS hAX hf hL hF
    obtain ⟨t2, a1, b1⟩ := kx E ce q u t T'.heap (locs ++ L) e1.symm (by rw [← e2]; exact X'.warmed.alike) hp hb k1 k2 k3 (by rw [e1]; exact hce) hcv hcl T' rfl X'
    exact ⟨t2, st.trans a1, b1⟩
/-- caught by the row x of this method's table; the rows ahead don't take it -/
theorem vx_catch {own name : String} {E : String} {ce : Cell} {q : Addr} (hown : s.vm.findClass own = some m.cls) (pre : List ExceptionTableEntry) (x : ExceptionTableEntry) (suf : List ExceptionTableEntry) (hsplit : c.exceptionTable.toList = pre ++ x :: suf)
    (hpass : ∀ z ∈ pre, covers z pc = false ∨ (z.catchType ≠ 0 ∧ ∃ nm : String, (Cond.classLink own z.catchType nm).before args s = true ∧ va_Nc E nm s)) (hx : covers x pc = true) (h0 : x.catchType ≠ 0)
    (hlink : (Cond.classLink own x.catchType name).before args s = true) (hcast : (Cond.castable E name).before args s = true) (hcell : H[q]? = some ce) (hv : ce.vm = .none) (hcl : s.vm.findClass E = some ce.cls)
    (kk : W p l e R s m args below meth c H locs cells slots Q (F0 m x.handlerPc ls [.ref q])) : vx_W p l e R s m args below meth c H locs cells slots Q (F0 m pc ls rest) q := by
  intro T hT X
  have hpl : e.platform.magicAccessors = ({} : Platform).magicAccessors := by rw [X.admits.platform]
  obtain ⟨c3, c4, hc3, hc4, hasg⟩ := Cond.castable_spec hcast
  cases Option.some.inj (hc3.symm.trans hcl)
  obtain ⟨c5, hc5, hcl5⟩ := Cond.classLink_spec hown hlink e.platform hpl
  cases Option.some.inj (hc4.symm.trans hc5)
  obtain ⟨vm', X', st⟩ := X.thenCaughtThrough q (g := F0 m pc ls rest) rfl (Steps.refl _) (by rw [hT]; exact hcell) (by rw [hv]; rfl) (by obtain ⟨k9, h9, -⟩ := Vm.findClass_spec hcl; exact ⟨k9, h9⟩) pre x suf hsplit
    (fun z hz => by
      rcases hpass z hz with h | ⟨hz0, nm, hl1, hn1⟩
      · exact Or.inl h
      · obtain ⟨c6, hc6, hcl6⟩ := Cond.classLink_spec hown hl1 e.platform hpl
        obtain ⟨a8, b8, h1, h2, h3⟩ := hn1
        cases Option.some.inj (h1.symm.trans hcl)
        cases Option.some.inj (h2.symm.trans hc6)
        exact Or.inr ⟨hz0, _, hcl6, h3⟩) hx (Or.inr ⟨h0, c4, hcl5, hasg⟩)
  obtain ⟨t, a1, b1⟩ := kk (T.setVm vm') hT X'
  exact ⟨t, st.trans a1, b1⟩
end Rows
section Ends
variable {p : Program} {l : Launch} {e : Env} {R : Room} {s : State} {m : MethodId} {args : Array Value} {below : List Frame} {meth : Method} {c : Code} {H : Heap} {locs : List Loc} {cells slots : Nat} {Q : State → Prop}
variable {mc ms : Nat} {free : Addr → Prop} {A0 A1 : Nat → Prop} {H0 : Heap} {a : Array Value} {ls : Array Slot} {st0 rest : List Value}
variable {Qc : Array Value → State → Outcome → State → Prop} {XC : String → State → State → Prop}
/-- what a body that may throw owes at its end -/
def vx_MQ (below : List Frame) (Qc : Array Value → State → Outcome → State → Prop) (XC : String → State → State → Prop) (a : Array Value) (s : State) (mc ms : Nat) (free : Addr → Prop) : State → Prop := fun t =>
  ∃ o, t.status = .running ∧ Ended t below o ∧ vx_Q Qc XC mc ms free a s o t
theorem vx_ret {g : JFrame} {mc ms : Nat} (k : W p l e R s m args below meth c H locs cells slots (MQ below Qc args s mc ms free) g) : W p l e R s m args below meth c H locs cells slots (vx_MQ below Qc XC args s mc ms free) g := by
  intro T hT X
  obtain ⟨t, a1, o, b1, b2, b3, b4⟩ := k T hT X
  exact ⟨t, a1, o, b1, b2, Or.inl ⟨b3, b4⟩⟩
/-- not caught here: it goes on to the caller -/
theorem vx_widen {g : JFrame} {q : Addr} {k n : Nat} (h1 : cells ≤ k) (h2 : slots ≤ n) (kk : vx_W p l e R s m args below meth c H locs k n Q g q) : vx_W p l e R s m args below meth c H locs cells slots Q g q := fun T hT X => kk T hT (stand_widen X h1 h2)
theorem vx_out {pc : Nat} {E : String} {ce : Cell} {q : Addr} {mc ms : Nat} (hout : ∀ x ∈ c.exceptionTable.toList, covers x pc = false) (hlocks : meth.locks = false) (hcell : H[q]? = some ce) (hv : ce.vm = .none) (hcl : s.vm.findClass E = some ce.cls)
    (hx : ∀ t : State, t.heap = H → s.vm.Alike t.vm → XC E s t) (hf : ∀ z ∈ locs, free z.base) (hc : cells ≤ mc) (hs : slots ≤ ms) :
    vx_W p l e R s m args below meth c H locs cells slots (vx_MQ below Qc XC args s mc ms free) (F0 m pc ls rest) q := by
  intro T hT X
  obtain ⟨st1, hrun, hend, hW, hsm⟩ := X.leaveThrown q (g := F0 m pc ls rest) rfl rfl rfl hout hlocks
  have hcell9 : (T.setFrames (.throwing q :: below)).heap[q]? = some ce := by
    show T.heap[q]? = some ce
    rw [hT]; exact hcell
  exact ⟨_, st1, .threw q, hrun, hend, Or.inr ⟨q, rfl, E, ce, locs, hx _ hT hW.alike, hcell9, hv, hcl, hW, hsm.mono hc hs, hf⟩⟩
theorem vx_frame {U : State} {k n : Nat} (h : s.sameButNew ({ U with vm := s.vm } : State) locs k n) : s.heap.size ≤ U.heap.size ∧ ∀ q : Nat, q < s.heap.size → (∀ z ∈ locs, z.base ≠ q) → U.heap[q]? = s.heap[q]? := by
  obtain ⟨-, h2, -, -, -, h6⟩ := h
  refine ⟨h2, fun q hq hz => ?_⟩
  obtain ⟨c9, e1, e2, e3, e4⟩ := h6 q _ (Array.getElem?_eq_getElem hq)
  have hs : c9.slots = (s.heap[q]).slots := Array.ext_getElem? fun i => e4 i fun hm => hz _ hm rfl
  have h9 : c9 = s.heap[q] := by
    rw [hs] at e2
    exact e2
  have e5 : U.heap[q]? = some c9 := e1
  rw [e5, h9, Array.getElem?_eq_getElem hq]
/-- the words of a throw but the four that speak of the heap -/
def vx_no (w : Cond) : Bool := decide (w ≠ .isRef (.static Bundle.tN "UNASSIGNED_STACK" Bundle.steD)) && decide (w ≠ .isRef (.static Bundle.tN "SUPPRESSED_SENTINEL" Bundle.listD)) && decide (w ≠ .laysStatic Bundle.tN "UNASSIGNED_STACK" Bundle.steD) && decide (w ≠ .laysStatic Bundle.tN "SUPPRESSED_SENTINEL" Bundle.listD)
def vx_at0 (own : String) (ic : Nat) (X : String) (names : List String) : List Cond := (Bundle.ownAtoms0 own ic X names).filter vx_no
def vx_atS (own : String) (ic : Nat) (X : String) (names : List String) : List Cond := (Bundle.ownAtoms own ic X names).filter vx_no
/-- a word that the tables alone decide, or a good one -/
def vx_ot (w : Cond) : Bool := w.onTables || goodWord w
theorem vx_ot_at {args a' : Array Value} {s U : State} {w : Cond} (hW : s.WarmedH U.vm) (hvm : s.vm = U.vm) (hg : vx_ot w = true) (h : w.before args s = true) : w.before a' U = true := by
  simp only [vx_ot, Bool.or_eq_true] at hg
  rcases hg with hg | hg
  · exact va_tabs hg hvm h
  · exact word_at hW (good_of_word hg) h
/-- a list's words: the good ones out of the method's own list, the others by premises of their own -/
theorem vx_hat {args : Array Value} {s : State} {L B : List Cond} (h1 : ∀ w ∈ L.filter goodWord, w.before args s = true) (h2 : ∀ w ∈ L.filter (fun w => !goodWord w), w ∈ B) (h3 : ∀ w ∈ B, w.before args s = true) : ∀ w ∈ L, w.before args s = true := by
  intro w hw
  by_cases g : goodWord w = true
  · exact h1 w (List.mem_filter.mpr ⟨hw, g⟩)
  · refine h3 w (h2 w (List.mem_filter.mpr ⟨hw, ?_⟩))
    show (!goodWord w) = true
    cases hgw : goodWord w
    · rfl
    · exact absurd hgw g
theorem vx_c {args : Array Value} {s : State} {w : Cond} {B : List Cond} (h : w.before args s = true) (t : ∀ w ∈ B, w.before args s = true) : ∀ w' ∈ w :: B, w'.before args s = true := fun w' h' => (List.mem_cons.mp h').elim (fun e => by rw [e]; exact h) (t w')
theorem vx_n {args : Array Value} {s : State} : ∀ w ∈ ([] : List Cond), w.before args s = true := fun _ h => nomatch h
theorem vx_own {args : Array Value} {s : State} {L : List Cond} (h1 : ∀ w ∈ L.filter vx_no, w.before args s = true)
    (hU : (Cond.isRef (.static Bundle.tN "UNASSIGNED_STACK" Bundle.steD)).before args s = true) (hN : (Cond.isRef (.static Bundle.tN "SUPPRESSED_SENTINEL" Bundle.listD)).before args s = true)
    (lU : (Cond.laysStatic Bundle.tN "UNASSIGNED_STACK" Bundle.steD).before args s = true) (lN : (Cond.laysStatic Bundle.tN "SUPPRESSED_SENTINEL" Bundle.listD).before args s = true) : ∀ w ∈ L, w.before args s = true := by
  intro w hw
  by_cases e1 : w = .isRef (.static Bundle.tN "UNASSIGNED_STACK" Bundle.steD)
  · rw [e1]; exact hU
  · by_cases e2 : w = .isRef (.static Bundle.tN "SUPPRESSED_SENTINEL" Bundle.listD)
    · rw [e2]; exact hN
    · by_cases e3 : w = .laysStatic Bundle.tN "UNASSIGNED_STACK" Bundle.steD
      · rw [e3]; exact lU
      · by_cases e4 : w = .laysStatic Bundle.tN "SUPPRESSED_SENTINEL" Bundle.listD
        · rw [e4]; exact lN
        · exact h1 w (List.mem_filter.mpr ⟨hw, by unfold vx_no; rw [decide_eq_true e1, decide_eq_true e2, decide_eq_true e3, decide_eq_true e4]; rfl⟩)
/-- where a static field lies, its class's statics cell in H -/
def vx_L (C n d : String) (A : Nat → Prop) (U : State) (H : Heap) : Prop := ∃ (c : ClassId) (k : Class) (i : Nat) (f : Field) (a : Nat) (cell : Cell), U.vm.findClass C = some c ∧ U.fieldFound? C n d = some (c, k, i, f) ∧ f.isStatic = true ∧ k.statics = some a ∧ H[a]? = some cell ∧ cell.vm.isStatics = true ∧ cell.cls = c ∧ f.slot < cell.slots.size ∧ k.staticTypes[f.slot]? = some f.type ∧ ¬ A a
theorem vx_L.moved {C n d : String} {A : Nat → Prop} {u U : State} {H : Heap} (hvm : u.vm.Alike U.vm) (h : vx_L C n d A u H) : vx_L C n d A U H := by
  obtain ⟨c, k, i, f, a, cell, h1, h2, h3, h4, h5, h6, h7, h8, h9, h10⟩ := h
  obtain ⟨k', hi', he⟩ := State.fieldFound?_setVm hvm h2
  exact ⟨c, k', i, f, a, cell, by rw [hvm.findClass]; exact h1, hi', h3, by rw [he]; exact h4, h5, h6, h7, h8, by rw [he]; exact h9, h10⟩
theorem vx_L.kept {C n d : String} {A : Nat → Prop} {U : State} {H H1 : Heap} (h : vx_L C n d A U H) (hq : ∀ a : Nat, a < H.size → ¬ A a → H1[a]? = H[a]?) : vx_L C n d A U H1 := by
  obtain ⟨c, k, i, f, a, cell, h1, h2, h3, h4, h5, h6, h7, h8, h9, h10⟩ := h
  exact ⟨c, k, i, f, a, cell, h1, h2, h3, h4, by rw [hq a (Array.getElem?_eq_some_iff.mp h5).1 h10]; exact h5, h6, h7, h8, h9, h10⟩
theorem vx_L.narrow {C n d : String} {A B : Nat → Prop} {U : State} {H : Heap} (h : vx_L C n d A U H) (hAB : ∀ q, B q → A q) : vx_L C n d B U H := by
  obtain ⟨c, k, i, f, a, cell, h1, h2, h3, h4, h5, h6, h7, h8, h9, h10⟩ := h
  exact ⟨c, k, i, f, a, cell, h1, h2, h3, h4, h5, h6, h7, h8, h9, fun z => h10 (hAB _ z)⟩
theorem vx_L.word {C n d : String} {A : Nat → Prop} {s : State} {args : Array Value} (h : vx_L C n d A s s.heap) : (Cond.laysStatic C n d).before args s = true := by
  obtain ⟨c, k, i, f, a, cell, h1, h2, h3, h4, h5, h6, h7, h8, h9, -⟩ := h
  show (Cond.laysStatic C n d).holds args s none s [] = true
  exact Cond.laysStatic_of h1 h2 h3 h4 h5 h6 h7 h8 h9
/-- .. and what it holds: null or some reference -/
def vx_Zq (C n d : String) (A : Nat → Prop) (U : State) (H : Heap) : Prop := va_Zq C n d A U H ∧ vx_L C n d A U H
theorem vx_Zq.moved {C n d : String} {A : Nat → Prop} {u U : State} {H : Heap} (hvm : u.vm.Alike U.vm) (h : vx_Zq C n d A u H) : vx_Zq C n d A U H := ⟨va_Zq.moved hvm h.1, vx_L.moved hvm h.2⟩
theorem vx_Zq.kept {C n d : String} {A : Nat → Prop} {U : State} {H H1 : Heap} (h : vx_Zq C n d A U H) (hq : ∀ a : Nat, a < H.size → ¬ A a → H1[a]? = H[a]?) : vx_Zq C n d A U H1 := ⟨va_Zq.kept h.1 hq, vx_L.kept h.2 hq⟩
theorem vx_Zq.narrow {C n d : String} {A B : Nat → Prop} {U : State} {H : Heap} (h : vx_Zq C n d A U H) (hAB : ∀ q, B q → A q) : vx_Zq C n d B U H := ⟨va_Zq.narrow h.1 hAB, vx_L.narrow h.2 hAB⟩
theorem vx_Zqof {args : Array Value} {s : State} {C n d : String} {A : Nat → Prop} (hl : (Cond.laysStatic C n d).before args s = true) (hini : (Cond.initialized C).before args s = true) (h : (Cond.isRef (.static C n d)).before args s = true) (hA : ∀ a : Nat, a < s.heap.size → ¬ A a) : vx_Zq C n d A s s.heap := by
  refine ⟨va_Zqof hl hini h hA, ?_⟩
  obtain ⟨c, k, i, f, a, cell, h1, h2, h3, h4, h5, h6, h7, h8, h9⟩ := Cond.laysStatic_spec hl
  exact ⟨c, k, i, f, a, cell, h1, h2, h3, h4, h5, h6, h7, h8, h9, hA a (Array.getElem?_eq_some_iff.mp h5).1⟩
theorem vx_isRef {C n d : String} {v : Value} {A : Nat → Prop} {s : State} {args : Array Value} (h : va_Z C n d v A s s.heap) (hv : v.isRef = true) : (Cond.isRef (.static C n d)).before args s = true := by
  obtain ⟨cf, kf, fi, f, a, cell, h1, h2, h3, h4, h5, h6, h7, -⟩ := h
  have he : (Term.static C n d).eval args s none [] s = some v := by
    simp [Term.eval, State.fieldNamed?, h1, h2, h4, h5, h6, h7]
  simp only [Cond.before, Cond.holds, Cond.value, he]
  cases v <;> simp_all [Value.isRef]
theorem vx_isRefq {C n d : String} {A : Nat → Prop} {s : State} {args : Array Value} (h : va_Zq C n d A s s.heap) : (Cond.isRef (.static C n d)).before args s = true := by
  rcases h with h | ⟨t, h⟩
  · exact vx_isRef h rfl
  · exact vx_isRef h rfl
/-- the same frame, seen from here: as if the method were called anew in this heap -/
theorem vx_rebase {T : State} (X : Stand p l e R s m args below meth c T locs cells slots) {R' : Room} (hf : R'.frames ≤ R.frames) (hl : R'.locals ≤ R.locals) (hc : cells + R'.cells ≤ R.cells) (hs : slots + R'.slots ≤ R.slots) :
    Stand p l e R' ((T.setVm s.vm).setFrames (.invoking m args :: below)) m args below meth c T [] 0 0 := by
  have htop : (T.setVm s.vm).topJava?.isSome := X.here.top
  have hF : ((T.setVm s.vm).setFrames (.invoking m args :: below)).frames = .invoking m args :: below := State.frames_setFrames _ (State.cur_lt_of_top htop)
  obtain ⟨g₀, hg0⟩ := Option.isSome_iff_exists.mp htop
  obtain ⟨r, hr⟩ := State.topJava?_eq_some.mp hg0
  have hl9 : e.platform.stackLimits (T.setVm s.vm).me = e.platform.stackLimits s.me := X.limits
  have hb9 : (T.setVm s.vm).me.stackBytes = s.me.stackBytes := X.bytes
  refine ⟨X.admits, X.cas, X.clock, hF, ?_, X.hears, X.method, X.code, X.here, X.tail, X.warmed, ?_, ?_, ?_⟩
  · have h := X.room
    have hU : ((T.setVm s.vm).setFrames (.invoking m args :: below)).localsInUse = s.localsInUse := by
      rw [State.localsInUse_invoking hF (meth := meth) (c := c) X.method X.code, State.localsInUse_invoking X.frames X.method X.code]
    simp only [State.hasRoom, Bool.and_eq_true, decide_eq_true_eq] at h ⊢
    obtain ⟨⟨⟨⟨h1, h2, h3, h4, h5, h6⟩, h7⟩, h8⟩, h9⟩ := h
    rw [X.frames, List.length_cons] at h2 h3
    have q1 := X.heapSize
    have q2 := X.used
    simp only [hF, hU, List.length_cons, State.stackLimits_setFrames, State.stackBytes_setFrames, hl9, hb9]
    refine ⟨⟨⟨⟨by omega, by omega, by omega, by omega, by omega, h6⟩, ?_⟩, ?_⟩, X.book⟩
    · show T.heap.size + R'.cells ≤ e.platform.maxCells
      omega
    · show T.slotsUsed + R'.slots ≤ e.platform.maxSlots
      omega
  · rw [State.stackLimits_setFrames]; rfl
  · rw [State.stackBytes_setFrames]; rfl
  · refine ⟨?_, Nat.le_refl _, Nat.le_refl _, ?_, ?_, fun a c9 h9 => ⟨c9, h9, rfl, rfl, fun _ _ => rfl⟩⟩
    · obtain ⟨t, ht, -⟩ := State.frames_cons hr
      show T.setVm s.vm = { ((T.setVm s.vm).setFrames (.invoking m args :: below)).setFrames (T.setVm s.vm).frames with heap := T.heap, slotsUsed := T.slotsUsed }
      rw [State.setFrames_setFrames, State.setFrames_self ht]
      rfl
    · show T.slotsUsed = T.slotsUsed + ((T.heap.toList.drop T.heap.size).map (·.slots.size)).sum
      rw [List.drop_eq_nil_of_le (Nat.le_of_eq Array.length_toList)]
      rfl
    · show ((T.heap.toList.drop T.heap.size).map (·.slots.size)).sum ≤ 0
      rw [List.drop_eq_nil_of_le (Nat.le_of_eq Array.length_toList)]
      exact Nat.le_refl _
/-- 'throw new E()': new; dup; invokespecial; athrow -/
theorem vx_throw0 {cc : ByteArray} {pc : Nat} (hexec : p.tables.exec = Jvm.exec) (hb : c.code = cc) (hl : l.stackTraces = false) {own cls : String} {names : List String} {ik ic mc ms : Nat} {A : Nat → Prop}
    (hown : s.vm.findClass own = some m.cls) (hcls : Bundle.fit cls = true) (hnames : ∀ n ∈ names, Bundle.fit n = true)
    (hk : (Cond.classLink own ik cls).before args s = true) (hini : (Cond.initialized cls).before args s = true) (hat : ∀ w ∈ vx_at0 own ic cls names, w.before args s = true)
    (hgood : ∀ w ∈ Cond.classLink own ik cls :: Cond.initialized cls :: vx_at0 own ic cls names, vx_ot w = true)
    (hU : vx_Zq Bundle.tN "UNASSIGNED_STACK" Bundle.steD A s s.heap) (hN : vx_Zq Bundle.tN "SUPPRESSED_SENTINEL" Bundle.listD A s s.heap) (hS : va_S A s.heap H locs) (hsize : ls.size = c.maxLocals)
    (d0 : decode cc pc = .ok (.new ik, 3)) (d3 : decode cc (pc + 3) = .ok (.dup, 1)) (d4 : decode cc (pc + 4) = .ok (.invokespecial ic, 3)) (d7 : decode cc (pc + 7) = .ok (.athrow, 1))
    (hout : ∀ x ∈ c.exceptionTable.toList, covers x (pc + 7) = false)
    (hRframes : names.length + 3 < R.frames) (hRlocals : (rest.map fun v => v.category).sum + (13 * (names.length + 1) + 42) ≤ R.locals) (hRcells : cells + 1 ≤ R.cells) (hRslots : slots + 6 ≤ R.slots) (hlocks : meth.locks = false)
    (hx : ∀ t : State, s.vm.Alike t.vm → H.size ≤ t.heap.size → (∀ q : Nat, q < H.size → t.heap[q]? = H[q]?) → XC cls s t)
    (hf : ∀ z ∈ locs, free z.base) (hc : cells + 1 ≤ mc) (hs : slots + 6 ≤ ms) :
    W p l e R s m args below meth c H locs cells slots (vx_MQ below Qc XC args s mc ms free) (F0 m pc ls rest) := by
  intro T hT X
  have htr : e.platform.stackTraces = false := (show e.platform.stackTraces = l.stackTraces by rw [X.admits.platform]).trans hl
  have Y := vx_rebase X (R' := { frames := R.frames, locals := R.locals, cells := 1, slots := 6 }) (Nat.le_refl _) (Nat.le_refl _) hRcells hRslots
  obtain ⟨s', hA⟩ : ∃ z, z = (T.setVm s.vm).setFrames (.invoking m args :: below) := ⟨_, rfl⟩
  rw [← hA] at Y
  have hvm : s'.vm = s.vm := by rw [hA]; rfl
  have hhp : s'.heap = H := by rw [hA]; exact hT
  have hW0 : s.WarmedH s'.vm := by rw [hvm]; exact State.WarmedH.refl s
  have hat' : ∀ w ∈ vx_at0 own ic cls names, w.before args s' = true := fun w hw => vx_ot_at hW0 hvm.symm (hgood w (List.mem_cons_of_mem _ (List.mem_cons_of_mem _ hw))) (hat w hw)
  have hk' : (Cond.classLink own ik cls).before args s' = true := vx_ot_at hW0 hvm.symm (hgood _ List.mem_cons_self) hk
  have hini' : (Cond.initialized cls).before args s' = true := vx_ot_at hW0 hvm.symm (hgood _ (List.mem_cons_of_mem _ List.mem_cons_self)) hini
  have hU' : vx_Zq Bundle.tN "UNASSIGNED_STACK" Bundle.steD A s' s'.heap := by rw [hhp]; exact vx_Zq.moved hW0.alike (hU.kept hS.2.1)
  have hN' : vx_Zq Bundle.tN "SUPPRESSED_SENTINEL" Bundle.listD A s' s'.heap := by rw [hhp]; exact vx_Zq.moved hW0.alike (hN.kept hS.2.1)
  have h : ∀ w ∈ Bundle.ownAtoms0 own ic cls names, w.before args s' = true := vx_own hat' (vx_isRefq hU'.1) (vx_isRefq hN'.1) hU'.2.word hN'.2.word
  have hown' : s'.vm.findClass own = some m.cls := by rw [hvm]; exact hown
  have hins : (Cond.instantiable cls 6).before args s' = true := h _ (by simp [Bundle.ownAtoms0])
  obtain ⟨vm₁, cX, kX, hfX, hkX, -, -, X₁, st1⟩ := Y.newCold hexec (own := own) (C := cls) (index := ik) (n := 6) hown' hk' hins hini'
    (g := F0 m pc ls rest) rfl (by rw [hb]; exact d0) (Nat.le_refl _) (Nat.le_refl _)
  generalize hT1 : (T.setVm vm₁).pushCell { cls := cX, slots := kX.instanceTypes.map defaultValue, vm := .none } = T1 at X₁ st1
  have hcat : (Value.ref T.heap.size).category = 1 := rfl
  have hcellA : T1.heap[T.heap.size]? = some (freshCell cX kX) := by rw [← hT1]; exact State.heap_pushCell_size _ _
  have d3' : decode c.code (pc + 3) = .ok (.dup, 1) := by rw [hb]; exact d3
  obtain ⟨U, hsteps, hrun, hend, hW, hsame, ce, hce, hO⟩ := X₁.ctorThrow0 hexec htr (own := own) (cls := cls) (names := names) (ic := ic) hown' hcls hnames h (fun x hx => nomatch hx) hfX hkX hcellA (by rw [hhp, hT]; exact Nat.le_refl _)
    (g := { method := m, pc := pc + 4, locals := ls, stack := .ref T.heap.size :: .ref T.heap.size :: rest, locked := none }) rfl hsize rfl rfl (rest := rest) rfl
    (by rw [hb]; exact d4) (by rw [hb]; exact d7) hout hRframes (by simp only [List.map_cons, List.sum_cons, hcat]; omega) hlocks
  obtain ⟨f1, f2⟩ := vx_frame hsame
  rw [hhp] at f1 f2
  have hWs : s.WarmedH U.vm := State.WarmedH.trans hW0 hW
  have hcl : s.vm.findClass cls = some ce.cls := by
    have h9 := hO.cls
    rw [hvm] at h9
    exact h9
  have hall : s.sameButNew ({ U with vm := s.vm } : State) locs mc ms := by
    subst hA
    obtain ⟨e1, e2⟩ := hsame
    rw [State.setFrames_setFrames] at e1
    have h2 : (T.setVm s.vm).sameButNew ({ U with vm := s.vm } : State) [] (0 + 1) (0 + 6) := ⟨e1, e2⟩
    have h3 := X.same.trans h2
    rw [List.append_nil] at h3
    exact h3.mono hc hs
  refine ⟨U, ?_, .threw T.heap.size, hrun, hend, Or.inr ⟨T.heap.size, rfl, cls, ce, locs, hx U hWs.alike f1 (fun q hq => f2 q hq (fun z hz => nomatch hz)), hce, hO.vm, hcl, hWs, hall, hf⟩⟩
  refine st1 _ ?_
  show Steps p.tables e below (T1.setTop { method := m, pc := pc + 3, locals := ls, stack := .ref T.heap.size :: rest, locked := none }) _
  jvm_step X₁.here [X₁.here.top, hexec, d3', Value.category]
  exact hsteps
/-- 'throw new E("text")': new; dup; ldc; invokespecial; athrow -/
theorem vx_throwS {cc : ByteArray} {pc : Nat} (hexec : p.tables.exec = Jvm.exec) (hb : c.code = cc) (hl : l.stackTraces = false) {own cls text : String} {names : List String} {ik is ic mc ms sa : Nat} {A : Nat → Prop}
    (hown : s.vm.findClass own = some m.cls) (hcls : Bundle.fit cls = true) (hnames : ∀ n ∈ names, Bundle.fit n = true)
    (hk : (Cond.classLink own ik cls).before args s = true) (hini : (Cond.initialized cls).before args s = true) (hstr : vk_R own is text sa s) (hat : ∀ w ∈ vx_atS own ic cls names, w.before args s = true)
    (hgood : ∀ w ∈ Cond.classLink own ik cls :: Cond.initialized cls :: vx_atS own ic cls names, vx_ot w = true)
    (hU : vx_Zq Bundle.tN "UNASSIGNED_STACK" Bundle.steD A s s.heap) (hN : vx_Zq Bundle.tN "SUPPRESSED_SENTINEL" Bundle.listD A s s.heap) (hS : va_S A s.heap H locs) (hsize : ls.size = c.maxLocals)
    (d0 : decode cc pc = .ok (.new ik, 3)) (d3 : decode cc (pc + 3) = .ok (.dup, 1)) (d4 : decode cc (pc + 4) = .ok (.ldc is, 2)) (d6 : decode cc (pc + 6) = .ok (.invokespecial ic, 3)) (d9 : decode cc (pc + 9) = .ok (.athrow, 1))
    (hout : ∀ x ∈ c.exceptionTable.toList, covers x (pc + 9) = false)
    (hRframes : names.length + 3 < R.frames) (hRlocals : (rest.map fun v => v.category).sum + (13 * (names.length + 1) + 43) ≤ R.locals) (hRcells : cells + 1 ≤ R.cells) (hRslots : slots + 6 ≤ R.slots) (hlocks : meth.locks = false)
    (hx : ∀ t : State, s.vm.Alike t.vm → H.size ≤ t.heap.size → (∀ q : Nat, q < H.size → t.heap[q]? = H[q]?) → XC cls s t)
    (hf : ∀ z ∈ locs, free z.base) (hc : cells + 1 ≤ mc) (hs : slots + 6 ≤ ms) :
    W p l e R s m args below meth c H locs cells slots (vx_MQ below Qc XC args s mc ms free) (F0 m pc ls rest) := by
  intro T hT X
  have htr : e.platform.stackTraces = false := (show e.platform.stackTraces = l.stackTraces by rw [X.admits.platform]).trans hl
  have Y := vx_rebase X (R' := { frames := R.frames, locals := R.locals, cells := 1, slots := 6 }) (Nat.le_refl _) (Nat.le_refl _) hRcells hRslots
  obtain ⟨s', hA⟩ : ∃ z, z = (T.setVm s.vm).setFrames (.invoking m args :: below) := ⟨_, rfl⟩
  rw [← hA] at Y
  have hvm : s'.vm = s.vm := by rw [hA]; rfl
  have hhp : s'.heap = H := by rw [hA]; exact hT
  have hW0 : s.WarmedH s'.vm := by rw [hvm]; exact State.WarmedH.refl s
  have hat' : ∀ w ∈ vx_atS own ic cls names, w.before args s' = true := fun w hw => vx_ot_at hW0 hvm.symm (hgood w (List.mem_cons_of_mem _ (List.mem_cons_of_mem _ hw))) (hat w hw)
  have hk' : (Cond.classLink own ik cls).before args s' = true := vx_ot_at hW0 hvm.symm (hgood _ List.mem_cons_self) hk
  have hini' : (Cond.initialized cls).before args s' = true := vx_ot_at hW0 hvm.symm (hgood _ (List.mem_cons_of_mem _ List.mem_cons_self)) hini
  have hU' : vx_Zq Bundle.tN "UNASSIGNED_STACK" Bundle.steD A s' s'.heap := by rw [hhp]; exact vx_Zq.moved hW0.alike (hU.kept hS.2.1)
  have hN' : vx_Zq Bundle.tN "SUPPRESSED_SENTINEL" Bundle.listD A s' s'.heap := by rw [hhp]; exact vx_Zq.moved hW0.alike (hN.kept hS.2.1)
  have h : ∀ w ∈ Bundle.ownAtoms own ic cls names, w.before args s' = true := vx_own hat' (vx_isRefq hU'.1) (vx_isRefq hN'.1) hU'.2.word hN'.2.word
  have hown' : s'.vm.findClass own = some m.cls := by rw [hvm]; exact hown
  have hins : (Cond.instantiable cls 6).before args s' = true := h _ (by simp [Bundle.ownAtoms])
  obtain ⟨vm₁, cX, kX, hfX, hkX, -, -, X₁, st1⟩ := Y.newCold hexec (own := own) (C := cls) (index := ik) (n := 6) hown' hk' hins hini'
    (g := F0 m pc ls rest) rfl (by rw [hb]; exact d0) (Nat.le_refl _) (Nat.le_refl _)
  generalize hT1 : (T.setVm vm₁).pushCell { cls := cX, slots := kX.instanceTypes.map defaultValue, vm := .none } = T1 at X₁ st1
  have hcat : (Value.ref T.heap.size).category = 1 := rfl
  have hcellA : T1.heap[T.heap.size]? = some (freshCell cX kX) := by rw [← hT1]; exact State.heap_pushCell_size _ _
  have d3' : decode c.code (pc + 3) = .ok (.dup, 1) := by rw [hb]; exact d3
  have d4' : decode c.code (pc + 4) = .ok (.ldc is, 2) := by rw [hb]; exact d4
  have hstr' : vk_R own is text sa s' := vk_R.warm hW0 hstr
  obtain ⟨U, hsteps, hrun, hend, hW, hsame, ce, hce, hO⟩ := X₁.ctorThrowS hexec htr (own := own) (cls := cls) (names := names) (ic := ic) hown' hcls hnames h (fun x hx => nomatch hx) hfX hkX hcellA (by rw [hhp, hT]; exact Nat.le_refl _) (msg := .ref sa) rfl
    (g := { method := m, pc := pc + 6, locals := ls, stack := .ref sa :: .ref T.heap.size :: .ref T.heap.size :: rest, locked := none }) rfl hsize rfl rfl (rest := rest) rfl
    (by rw [hb]; exact d6) (by rw [hb]; exact d9) hout hRframes (by simp only [List.map_cons, List.sum_cons, hcat]; omega) hlocks
  obtain ⟨f1, f2⟩ := vx_frame hsame
  rw [hhp] at f1 f2
  have hWs : s.WarmedH U.vm := State.WarmedH.trans hW0 hW
  have hcl : s.vm.findClass cls = some ce.cls := by
    have h9 := hO.cls
    rw [hvm] at h9
    exact h9
  have hall : s.sameButNew ({ U with vm := s.vm } : State) locs mc ms := by
    subst hA
    obtain ⟨e1, e2⟩ := hsame
    rw [State.setFrames_setFrames] at e1
    have h2 : (T.setVm s.vm).sameButNew ({ U with vm := s.vm } : State) [] (0 + 1) (0 + 6) := ⟨e1, e2⟩
    have h3 := X.same.trans h2
    rw [List.append_nil] at h3
    exact h3.mono hc hs
  refine ⟨U, ?_, .threw T.heap.size, hrun, hend, Or.inr ⟨T.heap.size, rfl, cls, ce, locs, hx U hWs.alike f1 (fun q hq => f2 q hq (fun z hz => nomatch hz)), hce, hO.vm, hcl, hWs, hall, hf⟩⟩
  refine st1 _ ?_
  show Steps p.tables e below (T1.setTop { method := m, pc := pc + 3, locals := ls, stack := .ref T.heap.size :: rest, locked := none }) _
  jvm_step X₁.here [X₁.here.top, hexec, d3', Value.category]
  exact X₁.ldcString hexec (own := own) (text := text) (index := is) (a := sa) hown' hstr'.1 hstr'.2
    (g := { method := m, pc := pc + 4, locals := ls, stack := .ref T.heap.size :: .ref T.heap.size :: rest, locked := none }) rfl d4' _ hsteps
/-- 'throw new E("text")', the text by a wide index -/
theorem vx_throwSW {cc : ByteArray} {pc : Nat} (hexec : p.tables.exec = Jvm.exec) (hb : c.code = cc) (hl : l.stackTraces = false) {own cls text : String} {names : List String} {ik is ic mc ms sa : Nat} {A : Nat → Prop}
    (hown : s.vm.findClass own = some m.cls) (hcls : Bundle.fit cls = true) (hnames : ∀ n ∈ names, Bundle.fit n = true)
    (hk : (Cond.classLink own ik cls).before args s = true) (hini : (Cond.initialized cls).before args s = true) (hstr : vk_R own is text sa s) (hat : ∀ w ∈ vx_atS own ic cls names, w.before args s = true)
    (hgood : ∀ w ∈ Cond.classLink own ik cls :: Cond.initialized cls :: vx_atS own ic cls names, vx_ot w = true)
    (hU : vx_Zq Bundle.tN "UNASSIGNED_STACK" Bundle.steD A s s.heap) (hN : vx_Zq Bundle.tN "SUPPRESSED_SENTINEL" Bundle.listD A s s.heap) (hS : va_S A s.heap H locs) (hsize : ls.size = c.maxLocals)
    (d0 : decode cc pc = .ok (.new ik, 3)) (d3 : decode cc (pc + 3) = .ok (.dup, 1)) (d4 : decode cc (pc + 4) = .ok (.ldc_w is, 3)) (d7 : decode cc (pc + 7) = .ok (.invokespecial ic, 3)) (d10 : decode cc (pc + 10) = .ok (.athrow, 1))
    (hout : ∀ x ∈ c.exceptionTable.toList, covers x (pc + 10) = false)
    (hRframes : names.length + 3 < R.frames) (hRlocals : (rest.map fun v => v.category).sum + (13 * (names.length + 1) + 43) ≤ R.locals) (hRcells : cells + 1 ≤ R.cells) (hRslots : slots + 6 ≤ R.slots) (hlocks : meth.locks = false)
    (hx : ∀ t : State, s.vm.Alike t.vm → H.size ≤ t.heap.size → (∀ q : Nat, q < H.size → t.heap[q]? = H[q]?) → XC cls s t)
    (hf : ∀ z ∈ locs, free z.base) (hc : cells + 1 ≤ mc) (hs : slots + 6 ≤ ms) :
    W p l e R s m args below meth c H locs cells slots (vx_MQ below Qc XC args s mc ms free) (F0 m pc ls rest) := by
  intro T hT X
  have htr : e.platform.stackTraces = false := (show e.platform.stackTraces = l.stackTraces by rw [X.admits.platform]).trans hl
  have Y := vx_rebase X (R' := { frames := R.frames, locals := R.locals, cells := 1, slots := 6 }) (Nat.le_refl _) (Nat.le_refl _) hRcells hRslots
  obtain ⟨s', hA⟩ : ∃ z, z = (T.setVm s.vm).setFrames (.invoking m args :: below) := ⟨_, rfl⟩
  rw [← hA] at Y
  have hvm : s'.vm = s.vm := by rw [hA]; rfl
  have hhp : s'.heap = H := by rw [hA]; exact hT
  have hW0 : s.WarmedH s'.vm := by rw [hvm]; exact State.WarmedH.refl s
  have hat' : ∀ w ∈ vx_atS own ic cls names, w.before args s' = true := fun w hw => vx_ot_at hW0 hvm.symm (hgood w (List.mem_cons_of_mem _ (List.mem_cons_of_mem _ hw))) (hat w hw)
  have hk' : (Cond.classLink own ik cls).before args s' = true := vx_ot_at hW0 hvm.symm (hgood _ List.mem_cons_self) hk
  have hini' : (Cond.initialized cls).before args s' = true := vx_ot_at hW0 hvm.symm (hgood _ (List.mem_cons_of_mem _ List.mem_cons_self)) hini
  have hU' : vx_Zq Bundle.tN "UNASSIGNED_STACK" Bundle.steD A s' s'.heap := by rw [hhp]; exact vx_Zq.moved hW0.alike (hU.kept hS.2.1)
  have hN' : vx_Zq Bundle.tN "SUPPRESSED_SENTINEL" Bundle.listD A s' s'.heap := by rw [hhp]; exact vx_Zq.moved hW0.alike (hN.kept hS.2.1)
  have h : ∀ w ∈ Bundle.ownAtoms own ic cls names, w.before args s' = true := vx_own hat' (vx_isRefq hU'.1) (vx_isRefq hN'.1) hU'.2.word hN'.2.word
  have hown' : s'.vm.findClass own = some m.cls := by rw [hvm]; exact hown
  have hins : (Cond.instantiable cls 6).before args s' = true := h _ (by simp [Bundle.ownAtoms])
  obtain ⟨vm₁, cX, kX, hfX, hkX, -, -, X₁, st1⟩ := Y.newCold hexec (own := own) (C := cls) (index := ik) (n := 6) hown' hk' hins hini'
    (g := F0 m pc ls rest) rfl (by rw [hb]; exact d0) (Nat.le_refl _) (Nat.le_refl _)
  generalize hT1 : (T.setVm vm₁).pushCell { cls := cX, slots := kX.instanceTypes.map defaultValue, vm := .none } = T1 at X₁ st1
  have hcat : (Value.ref T.heap.size).category = 1 := rfl
  have hcellA : T1.heap[T.heap.size]? = some (freshCell cX kX) := by rw [← hT1]; exact State.heap_pushCell_size _ _
  have d3' : decode c.code (pc + 3) = .ok (.dup, 1) := by rw [hb]; exact d3
  have d4' : decode c.code (pc + 4) = .ok (.ldc_w is, 3) := by rw [hb]; exact d4
  have hstr' : vk_R own is text sa s' := vk_R.warm hW0 hstr
  obtain ⟨U, hsteps, hrun, hend, hW, hsame, ce, hce, hO⟩ := X₁.ctorThrowS hexec htr (own := own) (cls := cls) (names := names) (ic := ic) hown' hcls hnames h (fun x hx => nomatch hx) hfX hkX hcellA (by rw [hhp, hT]; exact Nat.le_refl _) (msg := .ref sa) rfl
    (g := { method := m, pc := pc + 7, locals := ls, stack := .ref sa :: .ref T.heap.size :: .ref T.heap.size :: rest, locked := none }) rfl hsize rfl rfl (rest := rest) rfl
    (by rw [hb]; exact d7) (by rw [hb]; exact d10) hout hRframes (by simp only [List.map_cons, List.sum_cons, hcat]; omega) hlocks
  obtain ⟨f1, f2⟩ := vx_frame hsame
  rw [hhp] at f1 f2
  have hWs : s.WarmedH U.vm := State.WarmedH.trans hW0 hW
  have hcl : s.vm.findClass cls = some ce.cls := by
    have h9 := hO.cls
    rw [hvm] at h9
    exact h9
  have hall : s.sameButNew ({ U with vm := s.vm } : State) locs mc ms := by
    subst hA
    obtain ⟨e1, e2⟩ := hsame
    rw [State.setFrames_setFrames] at e1
    have h2 : (T.setVm s.vm).sameButNew ({ U with vm := s.vm } : State) [] (0 + 1) (0 + 6) := ⟨e1, e2⟩
    have h3 := X.same.trans h2
    rw [List.append_nil] at h3
    exact h3.mono hc hs
  refine ⟨U, ?_, .threw T.heap.size, hrun, hend, Or.inr ⟨T.heap.size, rfl, cls, ce, locs, hx U hWs.alike f1 (fun q hq => f2 q hq (fun z hz => nomatch hz)), hce, hO.vm, hcl, hWs, hall, hf⟩⟩
  refine st1 _ ?_
  show Steps p.tables e below (T1.setTop { method := m, pc := pc + 3, locals := ls, stack := .ref T.heap.size :: rest, locked := none }) _
  jvm_step X₁.here [X₁.here.top, hexec, d3', Value.category]
  exact X₁.ldcStringW hexec (own := own) (text := text) (index := is) (a := sa) hown' hstr'.1 hstr'.2
    (g := { method := m, pc := pc + 4, locals := ls, stack := .ref T.heap.size :: .ref T.heap.size :: rest, locked := none }) rfl d4' _ hsteps
end Ends
section Bodies
variable {l : Launch}
theorem vx_ofW {y : MethodName} {ws ws' : List Cond} {rm : Room} {Pc : Array Value → State → Prop} {Qc : Array Value → State → Outcome → State → Prop} {XC : String → State → State → Prop} {mc ms : Nat} {free : Addr → Prop} {cc : ByteArray} {maxL : Nat} {ret : Option FieldType}
    (hy : plainName y.cls = true) (hw : ws = Cond.code y cc maxL ret :: ws')
    (body : ∀ p e s m args below meth c s₁, BodyLoose p l y (headSpec ws rm) cc maxL ret e s m args below meth c s₁ → c.maxLocals = maxL → (∀ x ∈ c.exceptionTable.toList, False) → Pc args s →
      W p l e (headSpec ws rm).room s m args below meth c s.heap [] 0 0 (vx_MQ below Qc XC args s mc ms free) (entryFrame m args maxL)) : vx_Met l y ws rm Pc Qc XC mc ms free := by
  refine MetFree.of_bodyS (code := cc) (maxLocals := maxL) (ret := ret) hy ?_ ?_
  · intro args s m h hn
    obtain ⟨meth, c, h1, h2, h3, h4, h5, h6, -, -⟩ := Cond.code_spec hn (atoms_spec (ws := ws) h _ (by rw [hw]; exact List.mem_cons_self))
    exact ⟨meth, c, h1, h2, h3, h4, h5, h6⟩
  · intro p e s m args below meth c s₁ B hml hP _
    have hh0 : s₁.heap = s.heap := by rw [B.state]; rfl
    have ht : ∀ x ∈ c.exceptionTable.toList, False := by
      obtain ⟨meth9, c9, h1, h2, -, -, -, -, h7, -⟩ := Cond.code_spec B.named (atoms_spec (ws := ws) B.pre _ (by rw [hw]; exact List.mem_cons_self))
      cases Option.some.inj (h1.symm.trans B.method)
      cases Option.some.inj (h2.symm.trans (Stand.of_body B).code)
      intro x hx
      rw [Array.isEmpty_iff.mp h7] at hx
      cases hx
    obtain ⟨t, a1, o, b1, b2, b3⟩ := body p e s m args below meth c s₁ B hml ht hP s₁ hh0 (Stand.of_body B)
    exact ⟨t, o, a1, b1, b2, b3⟩
/-- the table of a body with handlers -/
theorem vx_table {p : Program} {x y : MethodName} {S : Spec} {cc bytes : ByteArray} {maxL maxL' : Nat} {ret ret' : Option FieldType} {e : Env} {s s₁ : State} {m : MethodId} {args : Array Value} {below : List Frame} {meth : Method} {c : Code} {hh : List (Nat × Nat × Nat × Nat)}
    (B : BodyLoose p l y S cc maxL ret e s m args below meth c s₁) (h : (Cond.codeWith y bytes maxL' ret' hh).before args s = true) : c.exceptionTable.toList = tableOf hh := by
  obtain ⟨m9, meth9, c9, hn9, h1, h2, -, -, h6, -⟩ := Cond.codeWith_spec h
  cases Option.some.inj (hn9.symm.trans B.named)
  cases Option.some.inj (h1.symm.trans B.method)
  cases Option.some.inj (h2.symm.trans (Stand.of_body B).code)
  rw [← h6, table_eq]
end Bodies
end VXA
/-! ===== END ===== -/
/-! ===== BEGIN a static call of a method with an exception table ===== -/
section VXS
variable {p : Program} {l : Launch} {e : Env} {R : Room} {s : State} {m : MethodId} {args : Array Value} {below : List Frame} {meth : Method} {c : Code} {T : State} {H : Heap} {locs : List Loc} {cells slots : Nat}
abbrev vx_CSW (R : Room) (s : State) (args : Array Value) (own : String) (index : Nat) (y : MethodName) (bytes : ByteArray) (maxL : Nat) (ret : Option FieldType) (hh : List (Nat × Nat × Nat × Nat)) (ws : List Cond) (rm : Room) (mc ms n : Nat) : Prop :=
  (rm.cells = mc ∧ rm.slots = ms ∧ rm.frames + 1 ≤ R.frames ∧ 8 + (maxL + 11) + rm.locals ≤ R.locals ∧ (∀ w ∈ ws, ∀ (a' : Array Value) (U : State), s.WarmedH U.vm → w.before a' U = true) ∧ Cond.codeWith y bytes maxL ret hh ∈ ws) ∧
  (Cond.codeWith y bytes maxL ret hh).before args s = true ∧ (Cond.initialized y.cls).before args s = true ∧ (y.cls ≠ "java/lang/invoke/MethodHandle" ∧ y.cls ≠ "java/lang/invoke/VarHandle") ∧
  (∀ sig, parseMethodDescriptor y.desc = some sig → n = sig.parameters.length) ∧ (Cond.methodLink own index y).before args s = true ∧ (Cond.static y).before args s = true
theorem vx_cwSW {own : String} {index maxL mc ms : Nat} {y : MethodName} {bytes : ByteArray} {ret : Option FieldType} {hh : List (Nat × Nat × Nat × Nat)} {Ts ws ws' : List Cond} {rm : Room} (n : Nat) (ht : ∀ w ∈ Ts, w.before args s = true) (hT : GoodIn Ts (va_wsS own index y ws)) (hw : ws = Cond.codeWith y bytes maxL ret hh :: ws') (hrc : rm.cells = mc) (hrs : rm.slots = ms)
    (hd : y.cls ≠ "java/lang/invoke/MethodHandle" ∧ y.cls ≠ "java/lang/invoke/VarHandle" ∧ (parseMethodDescriptor y.desc).map (fun d => d.parameters.length) = some n) (hR : rm.frames + 1 ≤ R.frames ∧ 8 + (maxL + 11) + rm.locals ≤ R.locals) :
    vx_CSW R s args own index y bytes maxL ret hh ws rm mc ms n := by
  have ok : ∀ w ∈ va_wsS own index y ws, w.before args s = true := fun w h => ht w (hT w h).1
  have hG : GoodIn Ts ws := fun w h => hT w (by unfold va_wsS; exact List.mem_append_right _ h)
  have hc : Cond.codeWith y bytes maxL ret hh ∈ ws := by rw [hw]; exact List.mem_cons_self
  refine ⟨⟨hrc, hrs, hR.1, hR.2, pay_in ht hG, hc⟩, ht _ (hG _ hc).1, ok _ (by simp [va_wsS]), ⟨hd.1, hd.2.1⟩, fun sig h => ?_, ok _ (by simp [va_wsS]), ok _ (by simp [va_wsS])⟩
  have h2 := hd.2.2
  rw [h] at h2
  exact (Option.some.inj h2).symm
theorem vx_callSW (X : Stand p l e R s m args below meth c T locs cells slots) (hexec : p.tables.exec = Jvm.exec) {own : String} {index : Nat} {y : MethodName} {bytes : ByteArray} {maxL : Nat} {ret : Option FieldType} {hh : List (Nat × Nat × Nat × Nat)}
    (hown : s.vm.findClass own = some m.cls) (hlink : (Cond.methodLink own index y).before args s = true) (hstat : (Cond.static y).before args s = true) (hinit : (Cond.initialized y.cls).before args s = true)
    (hcode : (Cond.codeWith y bytes maxL ret hh).before args s = true) (hy : y.cls ≠ "java/lang/invoke/MethodHandle" ∧ y.cls ≠ "java/lang/invoke/VarHandle")
    {W9 : Nat} {Pre : Pt → Array Value → Prop} {Post : Pt → Array Value → Option Value → Pt → Prop} (hK : Back l R p e below s args y 3 W9 Pre Post)
    {g : JFrame} (hg : g.method = m) (hsize : g.locals.size = c.maxLocals) {argsL rest : List Value} (hlen : ∀ sig, parseMethodDescriptor y.desc = some sig → argsL.length = sig.parameters.length)
    (hstack : g.stack = argsL.reverse ++ rest) (hW : 2 * g.monitorRoom + (rest.map fun v => v.category).sum ≤ W9) (hdg : decode c.code g.pc = .ok (.invokestatic index, 3))
    (hpre : ∀ vm₁, s.WarmedH vm₁ → Pre ⟨T.setVm vm₁, locs, cells, slots⟩ argsL.toArray) :
    ∃ (v : Option Value) (vm₁ : Vm) (B : Pt), s.WarmedH vm₁ ∧ Stand p l e R s m args below meth c B.U B.locs B.cells B.slots ∧ Post ⟨T.setVm vm₁, locs, cells, slots⟩ argsL.toArray v B ∧
      ∀ target, Steps p.tables e below (B.U.setTop { g with pc := g.pc + 3, stack := v.toList ++ rest }) target → Steps p.tables e below (T.setTop g) target := by
  obtain ⟨mk, methM, cM, hnamed, hmethM, -, -, -, -, -, -, hsigM⟩ := Cond.codeWith_spec hcode
  have hstatic : methM.isStatic = true := Cond.static_spec hnamed hmethM hstat
  obtain ⟨kP, hkP, -⟩ := className_of_methodNamed hnamed
  have hinitP : kP.init = .initialized := Cond.initialized_spec (findClass_of_methodNamed hnamed) hkP hinit
  obtain ⟨vm₁, X₁, hstep₁⟩ := X.invokestatic hexec hown hlink hnamed hmethM hstatic hkP hinitP hy (g := g) hg (argsL := argsL) (rest := rest) (hlen _ hsigM) hstack hdg
  obtain ⟨v, B, X', hpost, hsteps⟩ := hK m meth c ⟨T.setVm vm₁, locs, cells, slots⟩ { g with stack := rest } (.invokestatic index) mk argsL.toArray X₁ hg hsize hdg hW (X₁.named hnamed) (hpre vm₁ X₁.warmed)
  exact ⟨v, vm₁, B, X₁.warmed, X', hpost, fun target h => hstep₁ _ fun acts => by rw [doInvoke_state]; exact hsteps.trans h⟩
theorem vx_runSW {y : MethodName} {bytes cc : ByteArray} {maxL nL mc ms n index : Nat} {ret : Option FieldType} {hh : List (Nat × Nat × Nat × Nat)} {ws : List Cond} {rm : Room} {Pc : Array Value → State → Prop} {Qc : Array Value → State → Outcome → State → Prop} {free : Addr → Prop} {Ts : List Cond} {own : String} {As rest : List Value} {g : JFrame}
    (S : CallFix p m c cc nL s args Ts own) (hM : Met l y ws rm Pc Qc mc ms free) (cw : vx_CSW R s args own index y bytes maxL ret hh ws rm mc ms n) (hp : PreS s H Pc As)
    (hg : g.method = m) (hn : As.length = n) (hsize : g.locals.size = nL) (hstack : g.stack = As.reverse ++ rest) (hW : 2 * g.monitorRoom + (rest.map fun v => v.category).sum ≤ 8) (hdg : decode cc g.pc = .ok (.invokestatic index, 3)) (hf : cells + mc ≤ R.cells ∧ slots + ms ≤ R.slots) :
    va_Run p l e R s m args below meth c H locs cells slots mc ms g rest (Qc As.toArray) (free) := by
  obtain ⟨⟨hrc, hrs, hfr, hlo, hws, hcw⟩, hcode, hini, hy, hlen, hl, hstt⟩ := cw
  have hK : Back l R p e below s args y 3 8 (PreOf R mc ms Pc) (PostOf Qc mc ms free) := va_backW (hh := hh) (bytes := bytes) (maxL := maxL) (ret := ret) hM hp.1 hrc hrs hfr hlo hws hcw (fun a' U hW => word_at hW (Or.inl (by first | rfl | simp [Cond.onTables, Cond.keeps, Cond.steady])) hini)
  obtain ⟨hx, hb, hml, ho, -⟩ := S
  intro T hT X
  obtain ⟨v, vm₁, ⟨U', l2, c2, s2⟩, hW₁, X', ⟨g', mk, t, L, e1, e2, hq, h1, hL, h2, h3⟩, st⟩ := vx_callSW X hx (hh := hh) (bytes := bytes) (maxL := maxL) (ret := ret) ho hl hstt hini hcode hy hK hg (hsize.trans hml.symm) (argsL := As) (rest := rest) (fun sig h => hn.trans (hlen sig h)) hstack hW (by rw [hb]; exact hdg)
    (fun vm₁ hW₁ => ⟨hf.1, hf.2, hp.2 (T.setVm vm₁) hT hW₁⟩)
  dsimp only [Pt.U, Pt.locs, Pt.cells, Pt.slots] at X' e1 e2 h1 h2 h3 st
  subst h1; subst h2; subst h3
  exact ⟨v, (T.setVm vm₁).calling g' mk As.toArray, t, U', L, hT, X', hL, e1, e2, hq, st⟩
/-- not caught here, past rows that name other classes: it goes on to the caller -/
theorem vx_outP {p : Program} {l : Launch} {e : Env} {R : Room} {s : State} {m : MethodId} {args : Array Value} {below : List Frame} {meth : Method} {c : Code} {H : Heap} {locs : List Loc} {cells slots : Nat} {free : Addr → Prop} {ls : Array Slot} {rest : List Value} {Qc : Array Value → State → Outcome → State → Prop} {XC : String → State → State → Prop}
    {pc : Nat} {own E : String} {ce : Cell} {q : Addr} {mc ms : Nat} (hown : s.vm.findClass own = some m.cls) (hlocks : meth.locks = false)
    (hpass : ∀ z ∈ c.exceptionTable.toList, covers z pc = false ∨ (z.catchType ≠ 0 ∧ ∃ nm : String, (Cond.classLink own z.catchType nm).before args s = true ∧ va_Nc E nm s)) (hcell : H[q]? = some ce) (hv : ce.vm = .none) (hcl : s.vm.findClass E = some ce.cls)
    (hx : ∀ t : State, t.heap = H → s.vm.Alike t.vm → XC E s t) (hf : ∀ z ∈ locs, free z.base) (hc : cells ≤ mc) (hs : slots ≤ ms) :
    vx_W p l e R s m args below meth c H locs cells slots (vx_MQ below Qc XC args s mc ms free) (F0 m pc ls rest) q := by
  intro T hT X
  have hpl : e.platform.magicAccessors = ({} : Platform).magicAccessors := by rw [X.admits.platform]
  obtain ⟨vm', hW', X', st⟩ := X.outThrough hlocks q (g := F0 m pc ls rest) rfl rfl rfl (cell := ce) (by rw [hT]; exact hcell) (by rw [hv]; rfl)
    (by obtain ⟨k9, h9, -⟩ := Vm.findClass_spec hcl; exact ⟨k9, h9⟩) (fun z hz => by
      rcases hpass z hz with h | ⟨hz0, nm, hl1, hn1⟩
      · exact Or.inl h
      · obtain ⟨c6, hc6, hcl6⟩ := Cond.classLink_spec hown hl1 e.platform hpl
        obtain ⟨a8, b8, h1, h2, h3⟩ := hn1
        cases Option.some.inj (h1.symm.trans hcl)
        cases Option.some.inj (h2.symm.trans hc6)
        exact Or.inr ⟨hz0, _, hcl6, h3⟩)
  obtain ⟨g₀, hfr⟩ := X'.frames_eq
  have hcell9 : ((T.setVm vm').setFrames (.throwing q :: below)).heap[q]? = some ce := by
    show T.heap[q]? = some ce
    rw [hT]; exact hcell
  have hend : Ended ((T.setVm vm').setFrames (.throwing q :: below)) below (.threw q) := State.frames_setFrames _ (State.cur_lt_of_frames hfr)
  refine ⟨(T.setVm vm').setFrames (.throwing q :: below), ?_, .threw q, X'.here.running, hend, Or.inr ⟨q, rfl, E, ce, locs, hx _ hT (X'.ends _).1.alike, hcell9, hv, hcl, (X'.ends _).1, (X'.ends _).2.mono hc hs, hf⟩⟩
  rw [X.pushThrowing_eq]
  exact st
/-- a thing of a world lies in the heap -/
theorem vx_lt {D : va_G} {cl : List vw_C} {ws : va_W} {H1 : Heap} (h : va_P D cl ws H1) {k : Nat} {q : Nat × va_E} (hk : ws[k]? = some q) : q.1 < H1.size := (h k q hk).lt
end VXS
/-! ===== END ===== -/
/-! ===== BEGIN methods with a table of their own: called by a name, returning or throwing ===== -/
section VXH
/-! vx_backW, vx_callVX, vx_callSX, vx_callVW, vx_runVW, vx_runVX, vx_runSX, vx_ofWH follow the same proofs as their sisters above (Free/Laws.lean, Shelf42/LK1.lean); vx_outP calls Shelf42/NT130.lean (outThrough). -/
section
variable {l : Launch} {R : Room} {p : Program} {e : Env} {below : List Frame} {s : State} {sargs : Array Value} {y : MethodName} {len W9 : Nat}
theorem vx_backW {ws : List Cond} {rm : Room} {Pc : Array Value → State → Prop} {Qc : Array Value → State → Outcome → State → Prop} {XC : String → State → State → Prop} {mc ms : Nat} {free : Addr → Prop} {bytes : ByteArray} {maxL : Nat} {ret : Option FieldType} {hh : List (Nat × Nat × Nat × Nat)}
    (hM : vx_Met l y ws rm Pc Qc XC mc ms free) (hblind : FrameBlind Pc) (hrc : rm.cells = mc) (hrs : rm.slots = ms)
    (hframes : rm.frames + 1 ≤ R.frames) (hlocals : W9 + (maxL + 11) + rm.locals ≤ R.locals)
    (hws : ∀ w ∈ ws, ∀ a' U, s.WarmedH U.vm → w.before a' U = true) (hcode : Cond.codeWith y bytes maxL ret hh ∈ ws) (hinit : ∀ a' U, s.WarmedH U.vm → (Cond.initialized y.cls).before a' U = true) :
    vx_Back l R p e below s sargs y len W9 (PreOf R mc ms Pc) (PostOf Qc mc ms free) (vx_Post XC mc ms free) := by
  intro m meth c A g ig mk a X hg hsize hdg hW hn hp
  have h1 : (headSpec ws rm).pre.before a A.U = true := atoms_intro fun w hw => hws w hw _ _ X.warmed
  have h2 : (Cond.codeWith y bytes maxL ret hh).before a A.U = true := hws _ hcode _ _ X.warmed
  have h3 : (Cond.initialized y.cls).before a A.U = true := hinit _ _ X.warmed
  have h4 : A.cells + (headSpec ws rm).room.cells ≤ R.cells := by rw [show (headSpec ws rm).room.cells = mc from hrc]; exact hp.1
  have h5 : A.slots + (headSpec ws rm).room.slots ≤ R.slots := by rw [show (headSpec ws rm).room.slots = ms from hrs]; exact hp.2.1
  have hPc : Pc a (A.U.calling g mk a) := hblind _ _ _ _ hp.2.2
  obtain ⟨U, Ls, c0, s0⟩ := A
  dsimp only [Pt.U, Pt.locs, Pt.cells, Pt.slots] at h1 h2 h3 h4 h5 X hn hPc ⊢
  obtain ⟨m9, methY, cY, hn9, hmY, hcY, -, hlY, -⟩ := Cond.codeWith_spec h2
  cases Option.some.inj (hn9.symm.trans hn)
  obtain ⟨kY, hkY, -⟩ := className_of_methodNamed hn
  have hinitY : kY.init = .initialized := Cond.initialized_spec (findClass_of_methodNamed hn) hkY h3
  have h : At U g.method c below := by rw [hg]; exact X.here
  have hlocals9 : W9 + (maxL + 11) + (headSpec ws rm).room.locals ≤ R.locals := hlocals
  have happ : (headSpec ws rm).appliesLoose y e.platform (U.calling g mk a) = true :=
    Spec.appliesLoose_calling (g := g) h hdg hn hkY hinitY
      (X.room_calling (g := g) (R' := (headSpec ws rm).room) hsize hmY hcY hframes (by rw [hlY]; omega) h4 h5) h1
  obtain ⟨mid, hmid⟩ := h.above
  have hfr : (U.setTop g).frames = (.java g :: mid) ++ below := by rw [State.frames_setTop' g h.top, hmid]; rfl
  obtain ⟨o, s₂, hsteps, -, hend, hq⟩ := Steps.callFree hM p X.admits X.cas X.clock (acts := []) hfr happ hPc trivial
  have hq' : vx_Q Qc XC mc ms free a (U.calling g mk a) o s₂ := hq
  rw [State.frames_setTop' g h.top] at hend
  obtain ⟨g₀, hg0⟩ := Option.isSome_iff_exists.mp h.top
  obtain ⟨r, hr⟩ := State.topJava?_eq_some.mp hg0
  have hr' : (({ U with heap := s₂.heap, slotsUsed := s₂.slotsUsed } : State).setVm s₂.vm).frames = .java g₀ :: r := hr
  rcases hq' with ⟨hqc, L, hfe, hL⟩ | ⟨q, rfl, E, ce, L, hx, hce, hcv, hcl, hW₂, hsm, hL⟩
  · obtain ⟨⟨v, rfl⟩, hW₂, e2, q2, q3, q4, q5, q6⟩ := id hfe
    have e3 : s₂ = ({ (U.calling g mk a).setFrames s₂.frames with heap := s₂.heap, slotsUsed := s₂.slotsUsed } : State).setVm s₂.vm := by
      have : s₂ = ({ s₂ with vm := (U.calling g mk a).vm } : State).setVm s₂.vm := rfl
      rw [e2] at this
      exact this
    obtain ⟨c₂, i₂, len₂, hc₂, hd₂, hf₂⟩ := hend
    have hW' : U.WarmedH s₂.vm := hW₂
    have hcc : c₂ = c := by
      have h1 : s₂.code? g.method = U.code? g.method := by
        rw [State.code?_eq, State.code?_eq, hW'.alike.method?]
      exact Option.some.inj (hc₂.symm.trans (h1.trans h.code))
    subst hcc
    have hlen : len₂ = len := by rw [hdg] at hd₂; cases hd₂; rfl
    subst hlen
    have hs₂ : s₂ = (({ U with heap := s₂.heap, slotsUsed := s₂.slotsUsed } : State).setVm s₂.vm).setTop { g with pc := g.pc + len₂, stack := v.toList ++ g.stack } := by
      refine e3.trans ?_
      rw [hf₂, State.calling_eq h.top, State.setFrames_setFrames, State.setTop_of_frames _ hr', hr]
      rfl
    have hsame : U.sameButNew ({ U with heap := s₂.heap, slotsUsed := s₂.slotsUsed } : State) L mc ms := by
      refine ⟨?_, q2, q3, q4, q5, q6⟩
      obtain ⟨t, ht, -⟩ := State.frames_cons hr
      show ({ U with heap := s₂.heap, slotsUsed := s₂.slotsUsed } : State) = { U.setFrames U.frames with heap := s₂.heap, slotsUsed := s₂.slotsUsed }
      rw [State.setFrames_self ht]
    subst hg
    refine Or.inl ⟨v, ⟨(({ U with heap := s₂.heap, slotsUsed := s₂.slotsUsed } : State).setVm s₂.vm), Ls ++ L, c0 + mc, s0 + ms⟩,
      ⟨X.admits, X.cas, X.clock, X.frames, X.room, X.hears, X.method, X.code, (X.here.setHeapUsed s₂.heap s₂.slotsUsed).setVm hW'.alike, X.tail, State.WarmedH.trans X.warmed hW', X.limits, X.bytes, X.same.trans (hsame.setVm s.vm)⟩,
      ⟨g, mk, s₂, L, rfl, rfl, hqc, rfl, hL, rfl, rfl⟩, ?_⟩
    show Steps p.tables e below _ ((({ U with heap := s₂.heap, slotsUsed := s₂.slotsUsed } : State).setVm s₂.vm).setTop { g with pc := g.pc + len₂, stack := v.toList ++ g.stack })
    rw [← hs₂]
    exact hsteps
  · obtain ⟨e2, q2, q3, q4, q5, q6⟩ := id hsm
    have e3 : s₂ = ({ (U.calling g mk a).setFrames s₂.frames with heap := s₂.heap, slotsUsed := s₂.slotsUsed } : State).setVm s₂.vm := by
      have : s₂ = ({ s₂ with vm := (U.calling g mk a).vm } : State).setVm s₂.vm := rfl
      rw [e2] at this
      exact this
    have hf₂ : s₂.frames = .throwing q :: .java g :: U.frames.tail := hend
    have hW' : U.WarmedH s₂.vm := hW₂
    have hs₂ : s₂ = ((({ U with heap := s₂.heap, slotsUsed := s₂.slotsUsed } : State).setVm s₂.vm).setTop g).pushFrame (.throwing q) := by
      refine e3.trans ?_
      rw [hf₂, State.calling_eq h.top, State.setFrames_setFrames, State.pushFrame, State.frames_setTop _ hr', State.setTop_of_frames _ hr', State.setFrames_setFrames, hr]
      rfl
    have hsame : U.sameButNew ({ U with heap := s₂.heap, slotsUsed := s₂.slotsUsed } : State) L mc ms := by
      refine ⟨?_, q2, q3, q4, q5, q6⟩
      obtain ⟨t, ht, -⟩ := State.frames_cons hr
      show ({ U with heap := s₂.heap, slotsUsed := s₂.slotsUsed } : State) = { U.setFrames U.frames with heap := s₂.heap, slotsUsed := s₂.slotsUsed }
      rw [State.setFrames_self ht]
    subst hg
    refine Or.inr ⟨q, ⟨(({ U with heap := s₂.heap, slotsUsed := s₂.slotsUsed } : State).setVm s₂.vm), Ls ++ L, c0 + mc, s0 + ms⟩,
      ⟨X.admits, X.cas, X.clock, X.frames, X.room, X.hears, X.method, X.code, (X.here.setHeapUsed s₂.heap s₂.slotsUsed).setVm hW'.alike, X.tail, State.WarmedH.trans X.warmed hW', X.limits, X.bytes, X.same.trans (hsame.setVm s.vm)⟩,
      ⟨g, mk, s₂, L, E, ce, rfl, rfl, hx, hce, hcv, hcl, rfl, hL, rfl, rfl⟩, ?_⟩
    show Steps p.tables e below _ (((({ U with heap := s₂.heap, slotsUsed := s₂.slotsUsed } : State).setVm s₂.vm).setTop g).pushFrame (.throwing q))
    rw [← hs₂]
    exact hsteps
end
variable {p : Program} {l : Launch} {e : Env} {R : Room} {s : State} {m : MethodId} {args : Array Value} {below : List Frame} {meth : Method} {c : Code} {T : State} {H : Heap} {locs : List Loc} {cells slots : Nat}
theorem vx_callVX (X : Stand p l e R s m args below meth c T locs cells slots) (hexec : p.tables.exec = Jvm.exec) {own C : String} {index : Nat} {y : MethodName} {bytes : ByteArray} {maxL : Nat} {ret : Option FieldType} {hh : List (Nat × Nat × Nat × Nat)}
    (hown : s.vm.findClass own = some m.cls) (hlink : (Cond.methodLink own index y).before args s = true) (hinst : (Cond.instanceMethod y).before args s = true) (hsel : (Cond.selects C y y).before args s = true)
    (hcode : (Cond.codeWith y bytes maxL ret hh).before args s = true) (hy : y.cls ≠ "java/lang/invoke/MethodHandle" ∧ y.cls ≠ "java/lang/invoke/VarHandle")
    {W9 : Nat} {Pre : Pt → Array Value → Prop} {Post : Pt → Array Value → Option Value → Pt → Prop} {PostX : Pt → Array Value → Addr → Pt → Prop} (hK : vx_Back l R p e below s args y 3 W9 Pre Post PostX)
    {b : Addr} {cellB : Cell} (hcell : T.heap[b]? = some cellB) (hobj : cellB.vm.isStatics = false) (hcls : s.vm.findClass C = some cellB.cls)
    {g : JFrame} (hg : g.method = m) (hsize : g.locals.size = c.maxLocals) {argsL rest : List Value} (hlen : ∀ sig, parseMethodDescriptor y.desc = some sig → argsL.length = sig.parameters.length)
    (hstack : g.stack = argsL.reverse ++ .ref b :: rest) (hW : 2 * g.monitorRoom + (rest.map fun v => v.category).sum ≤ W9) (hdg : decode c.code g.pc = .ok (.invokevirtual index, 3))
    (hpre : ∀ vm₁, s.WarmedH vm₁ → Pre ⟨T.setVm vm₁, locs, cells, slots⟩ (Value.ref b :: argsL).toArray) :
    (∃ (v : Option Value) (vm₁ : Vm) (B : Pt), s.WarmedH vm₁ ∧ Stand p l e R s m args below meth c B.U B.locs B.cells B.slots ∧ Post ⟨T.setVm vm₁, locs, cells, slots⟩ (Value.ref b :: argsL).toArray v B ∧
      ∀ target, Steps p.tables e below (B.U.setTop { g with pc := g.pc + 3, stack := v.toList ++ rest }) target → Steps p.tables e below (T.setTop g) target) ∨
    (∃ (q : Addr) (vm₁ : Vm) (B : Pt), s.WarmedH vm₁ ∧ Stand p l e R s m args below meth c B.U B.locs B.cells B.slots ∧ PostX ⟨T.setVm vm₁, locs, cells, slots⟩ (Value.ref b :: argsL).toArray q B ∧
      Steps p.tables e below (T.setTop g) ((B.U.setTop { g with stack := rest }).pushFrame (.throwing q))) := by
  obtain ⟨mk, methM, hnamed, hmethM, hstM, habM⟩ := Cond.instanceMethod_spec hinst
  obtain ⟨m8, methM', cM, hn8, hmethM', -, -, -, -, -, -, hsigM⟩ := Cond.codeWith_spec hcode
  cases Option.some.inj (hn8.symm.trans hnamed)
  cases hmethM.symm.trans hmethM'
  obtain ⟨c2, r2, m2, q1, q2, q3, q4, kP, hkP, hkPi⟩ := Cond.selects_spec hsel
  cases hcls.symm.trans q1
  cases (State.methodFound?_of_named hnamed hy).symm.trans q2
  cases hnamed.symm.trans q3
  have hselP : selectMethod e.platform s.vm cellB.cls mk = .method mk := by rw [Launch.admits_selectMethod X.admits]; exact q4
  obtain ⟨vm₁, X₁, hstep₁⟩ := X.invokevirtual hexec hown hlink hnamed hmethM hstM hkP hkPi hy (a := b) (cell := cellB) hcell
    (fun z h => by rw [h] at hobj; cases hobj) hselP hmethM habM hkP hkPi (g := g) hg (argsL := argsL) (rest := rest) (hlen _ hsigM) hstack hdg
  rcases hK m meth c ⟨T.setVm vm₁, locs, cells, slots⟩ { g with stack := rest } (.invokevirtual index) mk (Value.ref b :: argsL).toArray X₁ hg hsize hdg hW (X₁.named hnamed) (hpre vm₁ X₁.warmed) with ⟨v, B, X', hpost, hsteps⟩ | ⟨q, B, X', hpost, hsteps⟩
  · exact Or.inl ⟨v, vm₁, B, X₁.warmed, X', hpost, fun target h => hstep₁ _ fun acts => by rw [doInvoke_state]; exact hsteps.trans h⟩
  · exact Or.inr ⟨q, vm₁, B, X₁.warmed, X', hpost, hstep₁ _ fun acts => by rw [doInvoke_state]; exact hsteps⟩
theorem vx_callSX (X : Stand p l e R s m args below meth c T locs cells slots) (hexec : p.tables.exec = Jvm.exec) {own : String} {index : Nat} {y : MethodName} {bytes : ByteArray} {maxL : Nat} {ret : Option FieldType} {hh : List (Nat × Nat × Nat × Nat)}
    (hown : s.vm.findClass own = some m.cls) (hlink : (Cond.methodLink own index y).before args s = true) (hstat : (Cond.static y).before args s = true) (hinit : (Cond.initialized y.cls).before args s = true)
    (hcode : (Cond.codeWith y bytes maxL ret hh).before args s = true) (hy : y.cls ≠ "java/lang/invoke/MethodHandle" ∧ y.cls ≠ "java/lang/invoke/VarHandle")
    {W9 : Nat} {Pre : Pt → Array Value → Prop} {Post : Pt → Array Value → Option Value → Pt → Prop} {PostX : Pt → Array Value → Addr → Pt → Prop} (hK : vx_Back l R p e below s args y 3 W9 Pre Post PostX)
    {g : JFrame} (hg : g.method = m) (hsize : g.locals.size = c.maxLocals) {argsL rest : List Value} (hlen : ∀ sig, parseMethodDescriptor y.desc = some sig → argsL.length = sig.parameters.length)
    (hstack : g.stack = argsL.reverse ++ rest) (hW : 2 * g.monitorRoom + (rest.map fun v => v.category).sum ≤ W9) (hdg : decode c.code g.pc = .ok (.invokestatic index, 3))
    (hpre : ∀ vm₁, s.WarmedH vm₁ → Pre ⟨T.setVm vm₁, locs, cells, slots⟩ argsL.toArray) :
    (∃ (v : Option Value) (vm₁ : Vm) (B : Pt), s.WarmedH vm₁ ∧ Stand p l e R s m args below meth c B.U B.locs B.cells B.slots ∧ Post ⟨T.setVm vm₁, locs, cells, slots⟩ argsL.toArray v B ∧
      ∀ target, Steps p.tables e below (B.U.setTop { g with pc := g.pc + 3, stack := v.toList ++ rest }) target → Steps p.tables e below (T.setTop g) target) ∨
    (∃ (q : Addr) (vm₁ : Vm) (B : Pt), s.WarmedH vm₁ ∧ Stand p l e R s m args below meth c B.U B.locs B.cells B.slots ∧ PostX ⟨T.setVm vm₁, locs, cells, slots⟩ argsL.toArray q B ∧
      Steps p.tables e below (T.setTop g) ((B.U.setTop { g with stack := rest }).pushFrame (.throwing q))) := by
  obtain ⟨mk, methM, cM, hnamed, hmethM, -, -, -, -, -, -, hsigM⟩ := Cond.codeWith_spec hcode
  have hstatic : methM.isStatic = true := Cond.static_spec hnamed hmethM hstat
  obtain ⟨kP, hkP, -⟩ := className_of_methodNamed hnamed
  have hinitP : kP.init = .initialized := Cond.initialized_spec (findClass_of_methodNamed hnamed) hkP hinit
  obtain ⟨vm₁, X₁, hstep₁⟩ := X.invokestatic hexec hown hlink hnamed hmethM hstatic hkP hinitP hy (g := g) hg (argsL := argsL) (rest := rest) (hlen _ hsigM) hstack hdg
  rcases hK m meth c ⟨T.setVm vm₁, locs, cells, slots⟩ { g with stack := rest } (.invokestatic index) mk argsL.toArray X₁ hg hsize hdg hW (X₁.named hnamed) (hpre vm₁ X₁.warmed) with ⟨v, B, X', hpost, hsteps⟩ | ⟨q, B, X', hpost, hsteps⟩
  · exact Or.inl ⟨v, vm₁, B, X₁.warmed, X', hpost, fun target h => hstep₁ _ fun acts => by rw [doInvoke_state]; exact hsteps.trans h⟩
  · exact Or.inr ⟨q, vm₁, B, X₁.warmed, X', hpost, hstep₁ _ fun acts => by rw [doInvoke_state]; exact hsteps⟩
theorem vx_callVW (X : Stand p l e R s m args below meth c T locs cells slots) (hexec : p.tables.exec = Jvm.exec) {own C : String} {index : Nat} {y : MethodName} {bytes : ByteArray} {maxL : Nat} {ret : Option FieldType} {hh : List (Nat × Nat × Nat × Nat)}
    (hown : s.vm.findClass own = some m.cls) (hlink : (Cond.methodLink own index y).before args s = true) (hinst : (Cond.instanceMethod y).before args s = true) (hsel : (Cond.selects C y y).before args s = true)
    (hcode : (Cond.codeWith y bytes maxL ret hh).before args s = true) (hy : y.cls ≠ "java/lang/invoke/MethodHandle" ∧ y.cls ≠ "java/lang/invoke/VarHandle")
    {W9 : Nat} {Pre : Pt → Array Value → Prop} {Post : Pt → Array Value → Option Value → Pt → Prop} (hK : Back l R p e below s args y 3 W9 Pre Post)
    {b : Addr} {cellB : Cell} (hcell : T.heap[b]? = some cellB) (hobj : cellB.vm.isStatics = false) (hcls : s.vm.findClass C = some cellB.cls)
    {g : JFrame} (hg : g.method = m) (hsize : g.locals.size = c.maxLocals) {argsL rest : List Value} (hlen : ∀ sig, parseMethodDescriptor y.desc = some sig → argsL.length = sig.parameters.length)
    (hstack : g.stack = argsL.reverse ++ .ref b :: rest) (hW : 2 * g.monitorRoom + (rest.map fun v => v.category).sum ≤ W9) (hdg : decode c.code g.pc = .ok (.invokevirtual index, 3))
    (hpre : ∀ vm₁, s.WarmedH vm₁ → Pre ⟨T.setVm vm₁, locs, cells, slots⟩ (Value.ref b :: argsL).toArray) :
    ∃ (v : Option Value) (vm₁ : Vm) (B : Pt), s.WarmedH vm₁ ∧ Stand p l e R s m args below meth c B.U B.locs B.cells B.slots ∧ Post ⟨T.setVm vm₁, locs, cells, slots⟩ (Value.ref b :: argsL).toArray v B ∧
      ∀ target, Steps p.tables e below (B.U.setTop { g with pc := g.pc + 3, stack := v.toList ++ rest }) target → Steps p.tables e below (T.setTop g) target := by
  obtain ⟨mk, methM, hnamed, hmethM, hstM, habM⟩ := Cond.instanceMethod_spec hinst
  obtain ⟨m8, methM', cM, hn8, hmethM', -, -, -, -, -, -, hsigM⟩ := Cond.codeWith_spec hcode
  cases Option.some.inj (hn8.symm.trans hnamed)
  cases hmethM.symm.trans hmethM'
  obtain ⟨c2, r2, m2, q1, q2, q3, q4, kP, hkP, hkPi⟩ := Cond.selects_spec hsel
  cases hcls.symm.trans q1
  cases (State.methodFound?_of_named hnamed hy).symm.trans q2
  cases hnamed.symm.trans q3
  have hselP : selectMethod e.platform s.vm cellB.cls mk = .method mk := by rw [Launch.admits_selectMethod X.admits]; exact q4
  obtain ⟨vm₁, X₁, hstep₁⟩ := X.invokevirtual hexec hown hlink hnamed hmethM hstM hkP hkPi hy (a := b) (cell := cellB) hcell
    (fun z h => by rw [h] at hobj; cases hobj) hselP hmethM habM hkP hkPi (g := g) hg (argsL := argsL) (rest := rest) (hlen _ hsigM) hstack hdg
  obtain ⟨v, B, X', hpost, hsteps⟩ := hK m meth c ⟨T.setVm vm₁, locs, cells, slots⟩ { g with stack := rest } (.invokevirtual index) mk (Value.ref b :: argsL).toArray X₁ hg hsize hdg hW (X₁.named hnamed) (hpre vm₁ X₁.warmed)
  exact ⟨v, vm₁, B, X₁.warmed, X', hpost, fun target h => hstep₁ _ fun acts => by rw [doInvoke_state]; exact hsteps.trans h⟩
abbrev vx_CVW (R : Room) (s : State) (args : Array Value) (own C : String) (index : Nat) (y : MethodName) (bytes : ByteArray) (maxL : Nat) (ret : Option FieldType) (hh : List (Nat × Nat × Nat × Nat)) (ws : List Cond) (rm : Room) (mc ms n : Nat) : Prop :=
  (rm.cells = mc ∧ rm.slots = ms ∧ rm.frames + 1 ≤ R.frames ∧ 8 + (maxL + 11) + rm.locals ≤ R.locals ∧ (∀ w ∈ ws, ∀ (a' : Array Value) (U : State), s.WarmedH U.vm → w.before a' U = true) ∧ Cond.codeWith y bytes maxL ret hh ∈ ws) ∧
  (Cond.codeWith y bytes maxL ret hh).before args s = true ∧ (Cond.initialized y.cls).before args s = true ∧ (y.cls ≠ "java/lang/invoke/MethodHandle" ∧ y.cls ≠ "java/lang/invoke/VarHandle") ∧
  (∀ sig, parseMethodDescriptor y.desc = some sig → n = sig.parameters.length) ∧ (Cond.methodLink own index y).before args s = true ∧ (Cond.instanceMethod y).before args s = true ∧ (Cond.selects C y y).before args s = true
theorem vx_cwVW {own C : String} {index maxL mc ms : Nat} {y : MethodName} {bytes : ByteArray} {ret : Option FieldType} {hh : List (Nat × Nat × Nat × Nat)} {Ts ws ws' : List Cond} {rm : Room} (n : Nat) (ht : ∀ w ∈ Ts, w.before args s = true) (hT : GoodIn Ts (wsV own index C y ws)) (hw : ws = Cond.codeWith y bytes maxL ret hh :: ws') (hrc : rm.cells = mc) (hrs : rm.slots = ms)
    (hd : y.cls = C ∧ y.cls ≠ "java/lang/invoke/MethodHandle" ∧ y.cls ≠ "java/lang/invoke/VarHandle" ∧ (parseMethodDescriptor y.desc).map (fun d => d.parameters.length) = some n) (hR : rm.frames + 1 ≤ R.frames ∧ 8 + (maxL + 11) + rm.locals ≤ R.locals) :
    vx_CVW R s args own C index y bytes maxL ret hh ws rm mc ms n := by
  obtain ⟨hC, hd⟩ := hd
  subst hC
  have ok : ∀ w ∈ wsV own index y.cls y ws, w.before args s = true := fun w h => ht w (hT w h).1
  have hG : GoodIn Ts ws := fun w h => hT w (by unfold wsV; exact List.mem_append_right _ h)
  have hc : Cond.codeWith y bytes maxL ret hh ∈ ws := by rw [hw]; exact List.mem_cons_self
  refine ⟨⟨hrc, hrs, hR.1, hR.2, pay_in ht hG, hc⟩, ht _ (hG _ hc).1, ok _ (by simp [wsV]), ⟨hd.1, hd.2.1⟩, fun sig h => ?_, ok _ (by simp [wsV]), ok _ (by simp [wsV]), ok _ (by simp [wsV])⟩
  have h2 := hd.2.2
  rw [h] at h2
  exact (Option.some.inj h2).symm
theorem vx_runVW {y : MethodName} {bytes cc : ByteArray} {maxL nL mc ms n index : Nat} {ret : Option FieldType} {hh : List (Nat × Nat × Nat × Nat)} {ws : List Cond} {rm : Room} {Pc : Array Value → State → Prop} {Qc : Array Value → State → Outcome → State → Prop} {free : Addr → Prop} {Ts : List Cond} {own C : String} {b : Addr} {As rest : List Value} {g : JFrame}
    (S : CallFix p m c cc nL s args Ts own) (hM : Met l y ws rm Pc Qc mc ms free) (cw : vx_CVW R s args own C index y bytes maxL ret hh ws rm mc ms n) (hp : PreV s H C b Pc As)
    (hg : g.method = m) (hn : As.length = n) (hsize : g.locals.size = nL) (hstack : g.stack = As.reverse ++ .ref b :: rest) (hW : 2 * g.monitorRoom + (rest.map fun v => v.category).sum ≤ 8) (hdg : decode cc g.pc = .ok (.invokevirtual index, 3)) (hf : cells + mc ≤ R.cells ∧ slots + ms ≤ R.slots) :
    va_Run p l e R s m args below meth c H locs cells slots mc ms g rest (Qc (Value.ref b :: As).toArray) free := by
  obtain ⟨⟨hrc, hrs, hfr, hlo, hws, hcw⟩, hcode, hini, hy, hlen, hl, hin, hse⟩ := cw
  have hK : Back l R p e below s args y 3 8 (PreOf R mc ms Pc) (PostOf Qc mc ms free) := va_backW (hh := hh) (bytes := bytes) (maxL := maxL) (ret := ret) hM hp.1 hrc hrs hfr hlo hws hcw (fun a' U hW => word_at hW (Or.inl (by first | rfl | simp [Cond.onTables, Cond.keeps, Cond.steady])) hini)
  obtain ⟨hx, hb, hml, ho, -⟩ := S
  obtain ⟨-, ⟨cellB, hcB, hoB, hclB⟩, hPc⟩ := hp
  intro T hT X
  obtain ⟨v, vm₁, ⟨U', l2, c2, s2⟩, hW₁, X', ⟨g', mk, t, L, e1, e2, hq, h1, hL, h2, h3⟩, st⟩ := vx_callVW X hx (C := C) (hh := hh) (bytes := bytes) (maxL := maxL) (ret := ret) ho hl hin hse hcode hy hK (by rw [hT]; exact hcB) hoB hclB hg (hsize.trans hml.symm) (argsL := As) (rest := rest) (fun sig h => hn.trans (hlen sig h)) hstack hW (by rw [hb]; exact hdg)
    (fun vm₁ hW₁ => ⟨hf.1, hf.2, hPc (T.setVm vm₁) hT hW₁⟩)
  dsimp only [Pt.U, Pt.locs, Pt.cells, Pt.slots] at X' e1 e2 h1 h2 h3 st
  subst h1; subst h2; subst h3
  exact ⟨v, (T.setVm vm₁).calling g' mk (Value.ref b :: As).toArray, t, U', L, hT, X', hL, e1, e2, hq, st⟩
section
variable {y : MethodName} {bytes cc : ByteArray} {maxL nL mc ms n index : Nat} {ret : Option FieldType} {ws : List Cond} {rm : Room} {Pc : Array Value → State → Prop} {Qc : Array Value → State → Outcome → State → Prop} {XC : String → State → State → Prop} {free : Addr → Prop} {Ts : List Cond} {own C : String} {b : Addr} {As rest : List Value} {g : JFrame}
theorem vx_runVX {hh : List (Nat × Nat × Nat × Nat)} (S : CallFix p m c cc nL s args Ts own) (hM : vx_Met l y ws rm Pc Qc XC mc ms free) (cw : vx_CVW R s args own C index y bytes maxL ret hh ws rm mc ms n) (hp : PreV s H C b Pc As)
    (hg : g.method = m) (hn : As.length = n) (hsize : g.locals.size = nL) (hstack : g.stack = As.reverse ++ .ref b :: rest) (hW : 2 * g.monitorRoom + (rest.map fun v => v.category).sum ≤ 8) (hdg : decode cc g.pc = .ok (.invokevirtual index, 3)) (hf : cells + mc ≤ R.cells ∧ slots + ms ≤ R.slots) :
    vx_Run p l e R s m args below meth c H locs cells slots mc ms g rest (Qc (Value.ref b :: As).toArray) XC free := by
  obtain ⟨⟨hrc, hrs, hfr, hlo, hws, hcw⟩, hcode, hini, hy, hlen, hl, hin, hse⟩ := cw
  have hK : vx_Back l R p e below s args y 3 8 (PreOf R mc ms Pc) (PostOf Qc mc ms free) (vx_Post XC mc ms free) := vx_backW (hh := hh) (bytes := bytes) (maxL := maxL) (ret := ret) hM hp.1 hrc hrs hfr hlo hws hcw (fun a' U hW => word_at hW (Or.inl (by first | rfl | simp [Cond.onTables, Cond.keeps, Cond.steady])) hini)
  obtain ⟨hx, hb, hml, ho, -⟩ := S
  obtain ⟨-, ⟨cellB, hcB, hoB, hclB⟩, hPc⟩ := hp
  intro T hT X
  rcases vx_callVX X hx (C := C) (hh := hh) (bytes := bytes) (maxL := maxL) (ret := ret) ho hl hin hse hcode hy hK (by rw [hT]; exact hcB) hoB hclB hg (hsize.trans hml.symm) (argsL := As) (rest := rest) (fun sig h => hn.trans (hlen sig h)) hstack hW (by rw [hb]; exact hdg)
    (fun vm₁ hW₁ => ⟨hf.1, hf.2, hPc (T.setVm vm₁) hT hW₁⟩) with ⟨v, vm₁, ⟨U', l2, c2, s2⟩, hW₁, X', ⟨g', mk, t, L, e1, e2, hq, h1, hL, h2, h3⟩, st⟩ | ⟨q, vm₁, ⟨U', l2, c2, s2⟩, hW₁, X', ⟨g', mk, t, L, E, ce, e1, e2, hq, hce, hcv, hcl, h1, hL, h2, h3⟩, st⟩
  · dsimp only [Pt.U, Pt.locs, Pt.cells, Pt.slots] at X' e1 e2 h1 h2 h3 st
    subst h1; subst h2; subst h3
    exact Or.inl ⟨v, (T.setVm vm₁).calling g' mk (Value.ref b :: As).toArray, t, U', L, hT, X', hL, e1, e2, hq, st⟩
  · dsimp only [Pt.U, Pt.locs, Pt.cells, Pt.slots] at X' e1 e2 h1 h2 h3 st hcl
    subst h1; subst h2; subst h3
    exact Or.inr ⟨q, (T.setVm vm₁).calling g' mk (Value.ref b :: As).toArray, t, U', L, E, ce, hT, X', hL, e1, e2, hq, hce, hcv, vx_cls hW₁ hcl, st⟩
theorem vx_runSX {hh : List (Nat × Nat × Nat × Nat)} (S : CallFix p m c cc nL s args Ts own) (hM : vx_Met l y ws rm Pc Qc XC mc ms free) (cw : vx_CSW R s args own index y bytes maxL ret hh ws rm mc ms n) (hp : PreS s H Pc As)
    (hg : g.method = m) (hn : As.length = n) (hsize : g.locals.size = nL) (hstack : g.stack = As.reverse ++ rest) (hW : 2 * g.monitorRoom + (rest.map fun v => v.category).sum ≤ 8) (hdg : decode cc g.pc = .ok (.invokestatic index, 3)) (hf : cells + mc ≤ R.cells ∧ slots + ms ≤ R.slots) :
    vx_Run p l e R s m args below meth c H locs cells slots mc ms g rest (Qc As.toArray) XC free := by
  obtain ⟨⟨hrc, hrs, hfr, hlo, hws, hcw⟩, hcode, hini, hy, hlen, hl, hstt⟩ := cw
  have hK : vx_Back l R p e below s args y 3 8 (PreOf R mc ms Pc) (PostOf Qc mc ms free) (vx_Post XC mc ms free) := vx_backW (hh := hh) (bytes := bytes) (maxL := maxL) (ret := ret) hM hp.1 hrc hrs hfr hlo hws hcw (fun a' U hW => word_at hW (Or.inl (by first | rfl | simp [Cond.onTables, Cond.keeps, Cond.steady])) hini)
  obtain ⟨hx, hb, hml, ho, -⟩ := S
  intro T hT X
  rcases vx_callSX X hx (hh := hh) (bytes := bytes) (maxL := maxL) (ret := ret) ho hl hstt hini hcode hy hK hg (hsize.trans hml.symm) (argsL := As) (rest := rest) (fun sig h => hn.trans (hlen sig h)) hstack hW (by rw [hb]; exact hdg)
    (fun vm₁ hW₁ => ⟨hf.1, hf.2, hp.2 (T.setVm vm₁) hT hW₁⟩) with ⟨v, vm₁, ⟨U', l2, c2, s2⟩, hW₁, X', ⟨g', mk, t, L, e1, e2, hq, h1, hL, h2, h3⟩, st⟩ | ⟨q, vm₁, ⟨U', l2, c2, s2⟩, hW₁, X', ⟨g', mk, t, L, E, ce, e1, e2, hq, hce, hcv, hcl, h1, hL, h2, h3⟩, st⟩
  · dsimp only [Pt.U, Pt.locs, Pt.cells, Pt.slots] at X' e1 e2 h1 h2 h3 st
    subst h1; subst h2; subst h3
    exact Or.inl ⟨v, (T.setVm vm₁).calling g' mk As.toArray, t, U', L, hT, X', hL, e1, e2, hq, st⟩
  · dsimp only [Pt.U, Pt.locs, Pt.cells, Pt.slots] at X' e1 e2 h1 h2 h3 st hcl
    subst h1; subst h2; subst h3
    exact Or.inr ⟨q, (T.setVm vm₁).calling g' mk As.toArray, t, U', L, E, ce, hT, X', hL, e1, e2, hq, hce, hcv, vx_cls hW₁ hcl, st⟩
end
end VXH
theorem vx_ofWH {l : Launch} {y : MethodName} {ws ws' : List Cond} {rm : Room} {Pc : Array Value → State → Prop} {Qc : Array Value → State → Outcome → State → Prop} {XC : String → State → State → Prop} {mc ms : Nat} {free : Addr → Prop} {cc : ByteArray} {maxL : Nat} {ret : Option FieldType} {hh : List (Nat × Nat × Nat × Nat)}
    (hy : plainName y.cls = true) (hw : ws = Cond.codeWith y cc maxL ret hh :: ws')
    (body : ∀ p e s m args below meth c s₁, BodyLoose p l y (headSpec ws rm) cc maxL ret e s m args below meth c s₁ → c.maxLocals = maxL → Pc args s →
      W p l e (headSpec ws rm).room s m args below meth c s.heap [] 0 0 (vx_MQ below Qc XC args s mc ms free) (entryFrame m args maxL)) : vx_Met l y ws rm Pc Qc XC mc ms free := by
  refine MetFree.of_bodyS (code := cc) (maxLocals := maxL) (ret := ret) hy ?_ ?_
  · intro args s m h hn
    obtain ⟨m9, meth, c, hn9, h1, h2, h3, h4, -, h5, h6, -⟩ := Cond.codeWith_spec (atoms_spec (ws := ws) h _ (by rw [hw]; exact List.mem_cons_self))
    cases hn.symm.trans hn9
    exact ⟨meth, c, h1, h2, h3, h4, h5, h6⟩
  · intro p e s m args below meth c s₁ B hml hP _
    have hh0 : s₁.heap = s.heap := by rw [B.state]; rfl
    obtain ⟨t, a1, o, b1, b2, b3⟩ := body p e s m args below meth c s₁ B hml hP s₁ hh0 (Stand.of_body B)
    exact ⟨t, o, a1, b1, b2, b3⟩
/-! ===== END ===== -/
end
section
/-! ===== BEGIN printed: names, fields, word lists, decode rows ===== -/
def RX0 : String := "TypeFoundry$Printer"
def TX0 : u_T := fun k => match k with
  | 0 => ("TypeFoundry$Printer", "tray", "LTypeFoundry$Sorts;", true)
  | 1 => ("TypeFoundry$Printer", "form", "LTypeFoundry$Sorts;", true)
  | 2 => ("TypeFoundry$Printer", "coins", "I", false)
  | 3 => ("TypeFoundry$Printer", "owed", "I", false)
  | 4 => ("TypeFoundry$Printer", "copies", "I", false)
  | _ => ("TypeFoundry$Printer", "words", "I", false)
def tyX0 : Nat → FieldType := fun k => match k with
  | 0 => .object "TypeFoundry$Sorts"
  | 1 => .object "TypeFoundry$Sorts"
  | 2 => .int
  | 3 => .int
  | 4 => .int
  | _ => .int
abbrev wsX00 : List Cond := u_ws RX0 TX0 6
theorem nmX0 : ∀ a, a < 6 → ∀ b, b < 6 → a ≠ b → (TX0 a).2.1 ≠ (TX0 b).2.1 := by decide +kernel
theorem tyX0_ok : ∀ k, k < 6 → parseFieldDescriptor (TX0 k).2.2.1 = some (tyX0 k) := by decide +kernel
abbrev cX0_init : ByteArray := prog_2_method_1_code
def yX0_init : MethodName := ⟨RX0, "<init>", "(I)V"⟩
abbrev cX0_rentOfADay : ByteArray := prog_2_method_2_code
def yX0_rentOfADay : MethodName := ⟨RX0, "rentOfADay", "()I"⟩
abbrev cX0_number : ByteArray := prog_2_method_3_code
def yX0_number : MethodName := ⟨RX0, "number", "(I)I"⟩
abbrev cX0_digestOnto : ByteArray := prog_2_method_4_code
def yX0_digestOnto : MethodName := ⟨RX0, "digestOnto", "(J)J"⟩
def RX1 : String := "TypeFoundry$Setting"
def TX1 : u_T := fun k => match k with
  | 0 => ("TypeFoundry$Setting", "left", "[I", true)
  | _ => ("TypeFoundry$Setting", "taken", "[I", true)
def tyX1 : Nat → FieldType := fun k => match k with
  | 0 => .array .int
  | _ => .array .int
abbrev wsX10 : List Cond := u_ws RX1 TX1 2
theorem nmX1 : ∀ a, a < 2 → ∀ b, b < 2 → a ≠ b → (TX1 a).2.1 ≠ (TX1 b).2.1 := by decide +kernel
theorem tyX1_ok : ∀ k, k < 2 → parseFieldDescriptor (TX1 k).2.2.1 = some (tyX1 k) := by decide +kernel
abbrev cX1_init : ByteArray := prog_3_method_1_code
def yX1_init : MethodName := ⟨RX1, "<init>", "()V"⟩
abbrev cX1_fillFrom : ByteArray := prog_3_method_2_code
def yX1_fillFrom : MethodName := ⟨RX1, "fillFrom", "(LTypeFoundry$Sorts;)V"⟩
abbrev cX1_fillWithoutEnd : ByteArray := prog_3_method_3_code
def yX1_fillWithoutEnd : MethodName := ⟨RX1, "fillWithoutEnd", "()V"⟩
abbrev cX1_takenOfPlenty : ByteArray := prog_3_method_4_code
def yX1_takenOfPlenty : MethodName := ⟨RX1, "takenOfPlenty", "(I)I"⟩
abbrev cX1_taken : ByteArray := prog_3_method_5_code
def yX1_taken : MethodName := ⟨RX1, "taken", "(I)I"⟩
abbrev cX1_lay : ByteArray := prog_3_method_6_code
def yX1_lay : MethodName := ⟨RX1, "lay", "(LTypeFoundry$Word;)I"⟩
abbrev cX1_layTillOneLacks : ByteArray := prog_3_method_7_code
def yX1_layTillOneLacks : MethodName := ⟨RX1, "layTillOneLacks", "(LTypeFoundry$Word;)I"⟩
abbrev cX1_layTheSameAgain : ByteArray := prog_3_method_8_code
def yX1_layTheSameAgain : MethodName := ⟨RX1, "layTheSameAgain", "()I"⟩
abbrev cX1_signFor : ByteArray := prog_3_method_9_code
def yX1_signFor : MethodName := ⟨RX1, "signFor", "(LTypeFoundry$Word;I)I"⟩
def RX2 : String := "TypeFoundry$Sorts"
def TX2 : u_T := fun k => match k with
  | _ => ("TypeFoundry$Sorts", "numbers", "[I", true)
def tyX2 : Nat → FieldType := fun k => match k with
  | _ => .array .int
abbrev wsX20 : List Cond := u_ws RX2 TX2 1
theorem nmX2 : ∀ a, a < 1 → ∀ b, b < 1 → a ≠ b → (TX2 a).2.1 ≠ (TX2 b).2.1 := by decide +kernel
theorem tyX2_ok : ∀ k, k < 1 → parseFieldDescriptor (TX2 k).2.2.1 = some (tyX2 k) := by decide +kernel
abbrev cX2_init : ByteArray := prog_4_method_1_code
def yX2_init : MethodName := ⟨RX2, "<init>", "()V"⟩
abbrev cX2_at : ByteArray := prog_4_method_2_code
def yX2_at : MethodName := ⟨RX2, "at", "(II)I"⟩
abbrev cX2_change : ByteArray := prog_4_method_3_code
def yX2_change : MethodName := ⟨RX2, "change", "(III)V"⟩
abbrev cX2_ofSign : ByteArray := prog_4_method_4_code
def yX2_ofSign : MethodName := ⟨RX2, "ofSign", "(I)I"⟩
abbrev cX2_inAll : ByteArray := prog_4_method_5_code
def yX2_inAll : MethodName := ⟨RX2, "inAll", "()I"⟩
abbrev cX2_wearInAll : ByteArray := prog_4_method_6_code
def yX2_wearInAll : MethodName := ⟨RX2, "wearInAll", "()I"⟩
abbrev cX2_greatestWear : ByteArray := prog_4_method_7_code
def yX2_greatestWear : MethodName := ⟨RX2, "greatestWear", "()I"⟩
abbrev cX2_metalFrom : ByteArray := prog_4_method_8_code
def yX2_metalFrom : MethodName := ⟨RX2, "metalFrom", "(I)I"⟩
abbrev cX2_dropFrom : ByteArray := prog_4_method_9_code
def yX2_dropFrom : MethodName := ⟨RX2, "dropFrom", "(I)I"⟩
abbrev cX2_moveLeastWorn : ByteArray := prog_4_method_10_code
def yX2_moveLeastWorn : MethodName := ⟨RX2, "moveLeastWorn", "(LTypeFoundry$Sorts;II)I"⟩
abbrev cX2_moveMostWorn : ByteArray := prog_4_method_11_code
def yX2_moveMostWorn : MethodName := ⟨RX2, "moveMostWorn", "(LTypeFoundry$Sorts;II)I"⟩
abbrev cX2_wearBy : ByteArray := prog_4_method_12_code
def yX2_wearBy : MethodName := ⟨RX2, "wearBy", "(I)I"⟩
abbrev cX2_digestOnto : ByteArray := prog_4_method_13_code
def yX2_digestOnto : MethodName := ⟨RX2, "digestOnto", "(J)J"⟩
abbrev cX2_moveAt : ByteArray := prog_4_method_14_code
def yX2_moveAt : MethodName := ⟨RX2, "moveAt", "(LTypeFoundry$Sorts;III)I"⟩
abbrev cX2_empty : ByteArray := prog_4_method_15_code
def yX2_empty : MethodName := ⟨RX2, "empty", "(II)I"⟩
def RX3 : String := "TypeFoundry$Word"
def TX3 : u_T := fun k => match k with
  | 0 => ("TypeFoundry$Word", "letters", "[I", true)
  | _ => ("TypeFoundry$Word", "firstPlace", "I", false)
def tyX3 : Nat → FieldType := fun k => match k with
  | 0 => .array .int
  | _ => .int
abbrev wsX30 : List Cond := u_ws RX3 TX3 2
theorem nmX3 : ∀ a, a < 2 → ∀ b, b < 2 → a ≠ b → (TX3 a).2.1 ≠ (TX3 b).2.1 := by decide +kernel
theorem tyX3_ok : ∀ k, k < 2 → parseFieldDescriptor (TX3 k).2.2.1 = some (tyX3 k) := by decide +kernel
abbrev cX3_init : ByteArray := prog_5_method_1_code
def yX3_init : MethodName := ⟨RX3, "<init>", "()V"⟩
abbrev cX3_spell : ByteArray := prog_5_method_2_code
def yX3_spell : MethodName := ⟨RX3, "spell", "(I)Z"⟩
abbrev cX3_firstPlace : ByteArray := prog_5_method_3_code
def yX3_firstPlace : MethodName := ⟨RX3, "firstPlace", "()I"⟩
abbrev cX3_letterAt : ByteArray := prog_5_method_4_code
def yX3_letterAt : MethodName := ⟨RX3, "letterAt", "(I)I"⟩
abbrev cX3_ligatureAt : ByteArray := prog_5_method_5_code
def yX3_ligatureAt : MethodName := ⟨RX3, "ligatureAt", "(I)I"⟩
abbrev cX3_howOften : ByteArray := prog_5_method_6_code
def yX3_howOften : MethodName := ⟨RX3, "howOften", "(I)I"⟩
def RX4 : String := "TypeFoundry"
def TX4 : u_T := fun k => match k with
  | 0 => ("TypeFoundry", "stock", "LTypeFoundry$Sorts;", true)
  | 1 => ("TypeFoundry", "printers", "[LTypeFoundry$Printer;", true)
  | 2 => ("TypeFoundry", "printersThere", "I", false)
  | 3 => ("TypeFoundry", "day", "I", false)
  | 4 => ("TypeFoundry", "metal", "I", false)
  | 5 => ("TypeFoundry", "coins", "I", false)
  | 6 => ("TypeFoundry", "everCast", "I", false)
  | 7 => ("TypeFoundry", "everBroken", "I", false)
  | 8 => ("TypeFoundry", "everMelted", "I", false)
  | 9 => ("TypeFoundry", "spelled", "LTypeFoundry$Word;", true)
  | _ => ("TypeFoundry", "setting", "LTypeFoundry$Setting;", true)
def tyX4 : Nat → FieldType := fun k => match k with
  | 0 => .object "TypeFoundry$Sorts"
  | 1 => .array (.object "TypeFoundry$Printer")
  | 2 => .int
  | 3 => .int
  | 4 => .int
  | 5 => .int
  | 6 => .int
  | 7 => .int
  | 8 => .int
  | 9 => .object "TypeFoundry$Word"
  | _ => .object "TypeFoundry$Setting"
abbrev wsX40 : List Cond := u_ws RX4 TX4 11
theorem nmX4 : ∀ a, a < 11 → ∀ b, b < 11 → a ≠ b → (TX4 a).2.1 ≠ (TX4 b).2.1 := by decide +kernel
theorem tyX4_ok : ∀ k, k < 11 → parseFieldDescriptor (TX4 k).2.2.1 = some (tyX4 k) := by decide +kernel
abbrev cX4_init : ByteArray := prog_1_method_1_code
def yX4_init : MethodName := ⟨RX4, "<init>", "()V"⟩
abbrev cX4_cast : ByteArray := prog_1_method_2_code
def yX4_cast : MethodName := ⟨RX4, "cast", "(II)I"⟩
abbrev cX4_melt : ByteArray := prog_1_method_3_code
def yX4_melt : MethodName := ⟨RX4, "melt", "(I)I"⟩
abbrev cX4_buy : ByteArray := prog_1_method_4_code
def yX4_buy : MethodName := ⟨RX4, "buy", "(I)I"⟩
abbrev cX4_come : ByteArray := prog_1_method_5_code
def yX4_come : MethodName := ⟨RX4, "come", "(I)I"⟩
abbrev cX4_rent : ByteArray := prog_1_method_6_code
def yX4_rent : MethodName := ⟨RX4, "rent", "(III)I"⟩
abbrev cX4_giveBack : ByteArray := prog_1_method_7_code
def yX4_giveBack : MethodName := ⟨RX4, "giveBack", "(III)I"⟩
abbrev cX4_pay : ByteArray := prog_1_method_8_code
def yX4_pay : MethodName := ⟨RX4, "pay", "(I)I"⟩
abbrev cX4_set : ByteArray := prog_1_method_9_code
def yX4_set : MethodName := ⟨RX4, "set", "(II)I"⟩
abbrev cX4_print : ByteArray := prog_1_method_10_code
def yX4_print : MethodName := ⟨RX4, "print", "(II)I"⟩
abbrev cX4_distribute : ByteArray := prog_1_method_11_code
def yX4_distribute : MethodName := ⟨RX4, "distribute", "(I)I"⟩
abbrev cX4_pass : ByteArray := prog_1_method_12_code
def yX4_pass : MethodName := ⟨RX4, "pass", "(I)I"⟩
abbrev cX4_sorts : ByteArray := prog_1_method_13_code
def yX4_sorts : MethodName := ⟨RX4, "sorts", "(III)I"⟩
abbrev cX4_printer : ByteArray := prog_1_method_14_code
def yX4_printer : MethodName := ⟨RX4, "printer", "(II)I"⟩
abbrev cX4_count : ByteArray := prog_1_method_15_code
def yX4_count : MethodName := ⟨RX4, "count", "(I)I"⟩
abbrev cX4_takes : ByteArray := prog_1_method_16_code
def yX4_takes : MethodName := ⟨RX4, "takes", "(II)I"⟩
abbrev cX4_lacks : ByteArray := prog_1_method_17_code
def yX4_lacks : MethodName := ⟨RX4, "lacks", "(II)I"⟩
abbrev cX4_bears : ByteArray := prog_1_method_18_code
def yX4_bears : MethodName := ⟨RX4, "bears", "(I)I"⟩
abbrev cX4_saves : ByteArray := prog_1_method_19_code
def yX4_saves : MethodName := ⟨RX4, "saves", "(II)I"⟩
abbrev cX4_times : ByteArray := prog_1_method_20_code
def yX4_times : MethodName := ⟨RX4, "times", "(II)I"⟩
abbrev cX4_mean : ByteArray := prog_1_method_21_code
def yX4_mean : MethodName := ⟨RX4, "mean", "()D"⟩
abbrev cX4_digest : ByteArray := prog_1_method_22_code
def yX4_digest : MethodName := ⟨RX4, "digest", "()J"⟩
abbrev cX4_needSign : ByteArray := prog_1_method_23_code
def yX4_needSign : MethodName := ⟨RX4, "needSign", "(I)V"⟩
abbrev cX4_needMany : ByteArray := prog_1_method_24_code
def yX4_needMany : MethodName := ⟨RX4, "needMany", "(I)V"⟩
abbrev cX4_needPrinter : ByteArray := prog_1_method_25_code
def yX4_needPrinter : MethodName := ⟨RX4, "needPrinter", "(I)LTypeFoundry$Printer;"⟩
abbrev cX4_needWord : ByteArray := prog_1_method_26_code
def yX4_needWord : MethodName := ⟨RX4, "needWord", "(I)LTypeFoundry$Word;"⟩
abbrev cX4_isLigature : ByteArray := prog_1_method_27_code
def yX4_isLigature : MethodName := ⟨RX4, "isLigature", "(I)Z"⟩
abbrev cX4_number : ByteArray := prog_1_method_28_code
def yX4_number : MethodName := ⟨RX4, "number", "(I)I"⟩
def RX5 : String := "TypeFoundryModel"
def TX5 : u_T := fun k => match k with
  | 0 => ("TypeFoundryModel", "thrown", "I", false)
  | 1 => ("TypeFoundryModel", "day", "I", false)
  | 2 => ("TypeFoundryModel", "metal", "I", false)
  | 3 => ("TypeFoundryModel", "coins", "I", false)
  | 4 => ("TypeFoundryModel", "printers", "I", false)
  | 5 => ("TypeFoundryModel", "made", "I", false)
  | 6 => ("TypeFoundryModel", "broken", "I", false)
  | 7 => ("TypeFoundryModel", "melted", "I", false)
  | 8 => ("TypeFoundryModel", "store", "[I", true)
  | 9 => ("TypeFoundryModel", "own", "[I", true)
  | 10 => ("TypeFoundryModel", "owed", "[I", true)
  | 11 => ("TypeFoundryModel", "copies", "[I", true)
  | 12 => ("TypeFoundryModel", "words", "[I", true)
  | 13 => ("TypeFoundryModel", "letter", "[I", true)
  | 14 => ("TypeFoundryModel", "letters", "I", false)
  | 15 => ("TypeFoundryModel", "takes", "[I", true)
  | _ => ("TypeFoundryModel", "left", "[I", true)
def tyX5 : Nat → FieldType := fun k => match k with
  | 0 => .int
  | 1 => .int
  | 2 => .int
  | 3 => .int
  | 4 => .int
  | 5 => .int
  | 6 => .int
  | 7 => .int
  | 8 => .array .int
  | 9 => .array .int
  | 10 => .array .int
  | 11 => .array .int
  | 12 => .array .int
  | 13 => .array .int
  | 14 => .int
  | 15 => .array .int
  | _ => .array .int
abbrev wsX50 : List Cond := u_ws RX5 TX5 17
theorem nmX5 : ∀ a, a < 17 → ∀ b, b < 17 → a ≠ b → (TX5 a).2.1 ≠ (TX5 b).2.1 := by decide +kernel
theorem tyX5_ok : ∀ k, k < 17 → parseFieldDescriptor (TX5 k).2.2.1 = some (tyX5 k) := by decide +kernel
abbrev cX5_init : ByteArray := prog_7_method_1_code
def yX5_init : MethodName := ⟨RX5, "<init>", "()V"⟩
abbrev cX5_thrown : ByteArray := prog_7_method_2_code
def yX5_thrown : MethodName := ⟨RX5, "thrown", "()I"⟩
abbrev cX5_no : ByteArray := prog_7_method_3_code
def yX5_no : MethodName := ⟨RX5, "no", "(I)I"⟩
abbrev cX5_isIn : ByteArray := prog_7_method_4_code
def yX5_isIn : MethodName := ⟨RX5, "isIn", "(III)Z"⟩
abbrev cX5_isPrinter : ByteArray := prog_7_method_5_code
def yX5_isPrinter : MethodName := ⟨RX5, "isPrinter", "(I)Z"⟩
abbrev cX5_isSign : ByteArray := prog_7_method_6_code
def yX5_isSign : MethodName := ⟨RX5, "isSign", "(I)Z"⟩
abbrev cX5_caseOf : ByteArray := prog_7_method_7_code
def yX5_caseOf : MethodName := ⟨RX5, "caseOf", "(I)I"⟩
abbrev cX5_formOf : ByteArray := prog_7_method_8_code
def yX5_formOf : MethodName := ⟨RX5, "formOf", "(I)I"⟩
abbrev cX5_many : ByteArray := prog_7_method_9_code
def yX5_many : MethodName := ⟨RX5, "many", "(II)I"⟩
abbrev cX5_all : ByteArray := prog_7_method_10_code
def yX5_all : MethodName := ⟨RX5, "all", "(I)I"⟩
abbrev cX5_worn : ByteArray := prog_7_method_11_code
def yX5_worn : MethodName := ⟨RX5, "worn", "(I)I"⟩
abbrev cX5_move : ByteArray := prog_7_method_12_code
def yX5_move : MethodName := ⟨RX5, "move", "(IIIII)I"⟩
abbrev cX5_price : ByteArray := prog_7_method_13_code
def yX5_price : MethodName := ⟨RX5, "price", "(I)I"⟩
abbrev cX5_cast : ByteArray := prog_7_method_14_code
def yX5_cast : MethodName := ⟨RX5, "cast", "(II)I"⟩
abbrev cX5_melt : ByteArray := prog_7_method_15_code
def yX5_melt : MethodName := ⟨RX5, "melt", "(I)I"⟩
abbrev cX5_buy : ByteArray := prog_7_method_16_code
def yX5_buy : MethodName := ⟨RX5, "buy", "(I)I"⟩
abbrev cX5_come : ByteArray := prog_7_method_17_code
def yX5_come : MethodName := ⟨RX5, "come", "(I)I"⟩
abbrev cX5_rent : ByteArray := prog_7_method_18_code
def yX5_rent : MethodName := ⟨RX5, "rent", "(III)I"⟩
abbrev cX5_giveBack : ByteArray := prog_7_method_19_code
def yX5_giveBack : MethodName := ⟨RX5, "giveBack", "(III)I"⟩
abbrev cX5_pay : ByteArray := prog_7_method_20_code
def yX5_pay : MethodName := ⟨RX5, "pay", "(I)I"⟩
abbrev cX5_isWord : ByteArray := prog_7_method_21_code
def yX5_isWord : MethodName := ⟨RX5, "isWord", "(I)Z"⟩
abbrev cX5_ligature : ByteArray := prog_7_method_22_code
def yX5_ligature : MethodName := ⟨RX5, "ligature", "(I)I"⟩
abbrev cX5_compose : ByteArray := prog_7_method_23_code
def yX5_compose : MethodName := ⟨RX5, "compose", "()I"⟩
abbrev cX5_look : ByteArray := prog_7_method_24_code
def yX5_look : MethodName := ⟨RX5, "look", "(I)V"⟩
abbrev cX5_set : ByteArray := prog_7_method_25_code
def yX5_set : MethodName := ⟨RX5, "set", "(II)I"⟩
abbrev cX5_print : ByteArray := prog_7_method_26_code
def yX5_print : MethodName := ⟨RX5, "print", "(II)I"⟩
abbrev cX5_distribute : ByteArray := prog_7_method_27_code
def yX5_distribute : MethodName := ⟨RX5, "distribute", "(I)I"⟩
abbrev cX5_pass : ByteArray := prog_7_method_28_code
def yX5_pass : MethodName := ⟨RX5, "pass", "(I)I"⟩
abbrev cX5_sorts : ByteArray := prog_7_method_29_code
def yX5_sorts : MethodName := ⟨RX5, "sorts", "(III)I"⟩
abbrev cX5_told : ByteArray := prog_7_method_30_code
def yX5_told : MethodName := ⟨RX5, "told", "(II)I"⟩
abbrev cX5_printer : ByteArray := prog_7_method_31_code
def yX5_printer : MethodName := ⟨RX5, "printer", "(II)I"⟩
abbrev cX5_counted : ByteArray := prog_7_method_32_code
def yX5_counted : MethodName := ⟨RX5, "counted", "(I)I"⟩
abbrev cX5_count : ByteArray := prog_7_method_33_code
def yX5_count : MethodName := ⟨RX5, "count", "(I)I"⟩
abbrev cX5_takes : ByteArray := prog_7_method_34_code
def yX5_takes : MethodName := ⟨RX5, "takes", "(II)I"⟩
abbrev cX5_lacks : ByteArray := prog_7_method_35_code
def yX5_lacks : MethodName := ⟨RX5, "lacks", "(II)I"⟩
abbrev cX5_bears : ByteArray := prog_7_method_36_code
def yX5_bears : MethodName := ⟨RX5, "bears", "(I)I"⟩
abbrev cX5_saves : ByteArray := prog_7_method_37_code
def yX5_saves : MethodName := ⟨RX5, "saves", "(II)I"⟩
abbrev cX5_times : ByteArray := prog_7_method_38_code
def yX5_times : MethodName := ⟨RX5, "times", "(II)I"⟩
abbrev cX5_mean : ByteArray := prog_7_method_39_code
def yX5_mean : MethodName := ⟨RX5, "mean", "()D"⟩
abbrev cX5_digest : ByteArray := prog_7_method_40_code
def yX5_digest : MethodName := ⟨RX5, "digest", "()J"⟩
def RJx145de : String := "java/io/Serializable"
def TJx145de : u_T := fun k => match k with
  | _ => ("", "", "", false)
def tyJx145de : Nat → FieldType := fun k => match k with
  | _ => .int
abbrev wsJx145de0 : List Cond := u_ws RJx145de TJx145de 0
theorem nmJx145de : ∀ a, a < 0 → ∀ b, b < 0 → a ≠ b → (TJx145de a).2.1 ≠ (TJx145de b).2.1 := by decide +kernel
theorem tyJx145de_ok : ∀ k, k < 0 → parseFieldDescriptor (TJx145de k).2.2.1 = some (tyJx145de k) := by decide +kernel
def RJ9 : String := "java/lang/Math"
def TJ9 : u_T := fun k => match k with
  | _ => ("", "", "", false)
def tyJ9 : Nat → FieldType := fun k => match k with
  | _ => .int
abbrev wsJ90 : List Cond := u_ws RJ9 TJ9 0
theorem nmJ9 : ∀ a, a < 0 → ∀ b, b < 0 → a ≠ b → (TJ9 a).2.1 ≠ (TJ9 b).2.1 := by decide +kernel
theorem tyJ9_ok : ∀ k, k < 0 → parseFieldDescriptor (TJ9 k).2.2.1 = some (tyJ9 k) := by decide +kernel
abbrev cJ9_max_7cf53 : ByteArray := prog_12_method_65_code
def yJ9_max_7cf53 : MethodName := ⟨RJ9, "max", "(II)I"⟩
abbrev cJ9_min_7cf53 : ByteArray := prog_12_method_69_code
def yJ9_min_7cf53 : MethodName := ⟨RJ9, "min", "(II)I"⟩
def RJ0 : String := "java/lang/String"
def TJ0 : u_T := fun k => match k with
  | _ => ("", "", "", false)
def tyJ0 : Nat → FieldType := fun k => match k with
  | _ => .int
abbrev wsJ00 : List Cond := u_ws RJ0 TJ0 0
theorem nmJ0 : ∀ a, a < 0 → ∀ b, b < 0 → a ≠ b → (TJ0 a).2.1 ≠ (TJ0 b).2.1 := by decide +kernel
theorem tyJ0_ok : ∀ k, k < 0 → parseFieldDescriptor (TJ0 k).2.2.1 = some (tyJ0 k) := by decide +kernel
def RJ7 : String := "java/util/Arrays"
def TJ7 : u_T := fun k => match k with
  | _ => ("", "", "", false)
def tyJ7 : Nat → FieldType := fun k => match k with
  | _ => .int
abbrev wsJ70 : List Cond := u_ws RJ7 TJ7 0
theorem nmJ7 : ∀ a, a < 0 → ∀ b, b < 0 → a ≠ b → (TJ7 a).2.1 ≠ (TJ7 b).2.1 := by decide +kernel
theorem tyJ7_ok : ∀ k, k < 0 → parseFieldDescriptor (TJ7 k).2.2.1 = some (tyJ7 k) := by decide +kernel
abbrev cJ7_fill_53178 : ByteArray := prog_16_method_103_code
def yJ7_fill_53178 : MethodName := ⟨RJ7, "fill", "([II)V"⟩
def RL : String := "TypeFoundryLaw"
abbrev cL_cast : ByteArray := method_3_code
def yL_cast : MethodName := ⟨RL, "cast", "(LTypeFoundry;II[J)I"⟩
abbrev cL_melt : ByteArray := method_4_code
def yL_melt : MethodName := ⟨RL, "melt", "(LTypeFoundry;I[J)I"⟩
abbrev cL_buy : ByteArray := method_5_code
def yL_buy : MethodName := ⟨RL, "buy", "(LTypeFoundry;I[J)I"⟩
abbrev cL_come : ByteArray := method_6_code
def yL_come : MethodName := ⟨RL, "come", "(LTypeFoundry;I[J)I"⟩
abbrev cL_rent : ByteArray := method_7_code
def yL_rent : MethodName := ⟨RL, "rent", "(LTypeFoundry;III[J)I"⟩
abbrev cL_giveBack : ByteArray := method_8_code
def yL_giveBack : MethodName := ⟨RL, "giveBack", "(LTypeFoundry;III[J)I"⟩
abbrev cL_pay : ByteArray := method_9_code
def yL_pay : MethodName := ⟨RL, "pay", "(LTypeFoundry;I[J)I"⟩
abbrev cL_set : ByteArray := method_10_code
def yL_set : MethodName := ⟨RL, "set", "(LTypeFoundry;II[J)I"⟩
abbrev cL_print : ByteArray := method_11_code
def yL_print : MethodName := ⟨RL, "print", "(LTypeFoundry;II[J)I"⟩
abbrev cL_distribute : ByteArray := method_12_code
def yL_distribute : MethodName := ⟨RL, "distribute", "(LTypeFoundry;I[J)I"⟩
abbrev cL_pass : ByteArray := method_13_code
def yL_pass : MethodName := ⟨RL, "pass", "(LTypeFoundry;I[J)I"⟩
abbrev cL_sorts : ByteArray := method_14_code
def yL_sorts : MethodName := ⟨RL, "sorts", "(LTypeFoundry;III[J)I"⟩
abbrev cL_printer : ByteArray := method_15_code
def yL_printer : MethodName := ⟨RL, "printer", "(LTypeFoundry;II[J)I"⟩
abbrev cL_count : ByteArray := method_16_code
def yL_count : MethodName := ⟨RL, "count", "(LTypeFoundry;I[J)I"⟩
abbrev cL_takes : ByteArray := method_17_code
def yL_takes : MethodName := ⟨RL, "takes", "(LTypeFoundry;II[J)I"⟩
abbrev cL_lacks : ByteArray := method_18_code
def yL_lacks : MethodName := ⟨RL, "lacks", "(LTypeFoundry;II[J)I"⟩
abbrev cL_bears : ByteArray := method_19_code
def yL_bears : MethodName := ⟨RL, "bears", "(LTypeFoundry;I[J)I"⟩
abbrev cL_saves : ByteArray := method_20_code
def yL_saves : MethodName := ⟨RL, "saves", "(LTypeFoundry;II[J)I"⟩
abbrev cL_times : ByteArray := method_21_code
def yL_times : MethodName := ⟨RL, "times", "(LTypeFoundry;II[J)I"⟩
abbrev cL_law : ByteArray := code
def yL_law : MethodName := ⟨RL, "law", "([I)Z"⟩
def wsX2_init : List Cond := .code yX2_init cX2_init 1 none :: ([.methodLink RX2 3 objectInit, .instanceMethod objectInit, .code objectInit ⟨#[0xb1]⟩ 1 none, .arrayClass .int, .fieldLink RX2 9 "TypeFoundry$Sorts" "numbers" "[I"] ++ wsX20)
def wsX0_init : List Cond := .code yX0_init cX0_init 2 none :: ([.methodLink RX0 3 objectInit, .instanceMethod objectInit, .code objectInit ⟨#[0xb1]⟩ 1 none, .classLink RX0 9 RX2, .instantiable RX2 1, .initialized RX2, .fieldLink RX0 12 "TypeFoundry$Printer" "tray" "LTypeFoundry$Sorts;", .fieldLink RX0 18 "TypeFoundry$Printer" "form" "LTypeFoundry$Sorts;", .fieldLink RX0 21 "TypeFoundry$Printer" "coins" "I", .instanceMethod yX2_init, .code yX2_init cX2_init 1 none, .methodLink RX2 3 objectInit, .arrayClass .int, .fieldLink RX2 9 "TypeFoundry$Sorts" "numbers" "[I"] ++ wsX20 ++ wsX00)
def wsX2_inAll : List Cond := .code yX2_inAll cX2_inAll 3 (some .int) :: ([.fieldLink RX2 9 "TypeFoundry$Sorts" "numbers" "[I"] ++ wsX20)
def wsX0_rentOfADay : List Cond := .code yX0_rentOfADay cX0_rentOfADay 1 (some .int) :: ([.fieldLink RX0 12 "TypeFoundry$Printer" "tray" "LTypeFoundry$Sorts;", .fieldLink RX0 18 "TypeFoundry$Printer" "form" "LTypeFoundry$Sorts;", .methodLink RX0 25 yX2_inAll, .instanceMethod yX2_inAll, .selects RX2 yX2_inAll yX2_inAll, .initialized RX2, .code yX2_inAll cX2_inAll 3 (some .int), .fieldLink RX2 9 "TypeFoundry$Sorts" "numbers" "[I"] ++ wsX00 ++ wsX20)
def wsX2_wearInAll : List Cond := .code yX2_wearInAll cX2_wearInAll 3 (some .int) :: ([.fieldLink RX2 9 "TypeFoundry$Sorts" "numbers" "[I"] ++ wsX20)
def wsX0_number : List Cond := .code yX0_number cX0_number 2 (some .int) :: ([.fieldLink RX0 21 "TypeFoundry$Printer" "coins" "I", .fieldLink RX0 29 "TypeFoundry$Printer" "owed" "I", .fieldLink RX0 12 "TypeFoundry$Printer" "tray" "LTypeFoundry$Sorts;", .fieldLink RX0 18 "TypeFoundry$Printer" "form" "LTypeFoundry$Sorts;", .fieldLink RX0 35 "TypeFoundry$Printer" "copies" "I", .fieldLink RX0 38 "TypeFoundry$Printer" "words" "I", .methodLink RX0 25 yX2_inAll, .instanceMethod yX2_inAll, .selects RX2 yX2_inAll yX2_inAll, .initialized RX2, .code yX2_inAll cX2_inAll 3 (some .int), .fieldLink RX2 9 "TypeFoundry$Sorts" "numbers" "[I", .methodLink RX0 32 yX2_wearInAll, .instanceMethod yX2_wearInAll, .selects RX2 yX2_wearInAll yX2_wearInAll, .code yX2_wearInAll cX2_wearInAll 3 (some .int)] ++ wsX00 ++ wsX20)
def wsX0_digestOnto : List Cond := .code yX0_digestOnto cX0_digestOnto 6 (some .long) :: ([.constantLong RX0 41 (31), .methodLink RX0 43 yX0_number, .instanceMethod yX0_number, .selects RX0 yX0_number yX0_number, .initialized RX0, .code yX0_number cX0_number 2 (some .int), .fieldLink RX0 21 "TypeFoundry$Printer" "coins" "I", .fieldLink RX0 29 "TypeFoundry$Printer" "owed" "I", .fieldLink RX0 12 "TypeFoundry$Printer" "tray" "LTypeFoundry$Sorts;", .fieldLink RX0 18 "TypeFoundry$Printer" "form" "LTypeFoundry$Sorts;", .fieldLink RX0 35 "TypeFoundry$Printer" "copies" "I", .fieldLink RX0 38 "TypeFoundry$Printer" "words" "I", .methodLink RX0 25 yX2_inAll, .instanceMethod yX2_inAll, .selects RX2 yX2_inAll yX2_inAll, .initialized RX2, .code yX2_inAll cX2_inAll 3 (some .int), .fieldLink RX2 9 "TypeFoundry$Sorts" "numbers" "[I", .methodLink RX0 32 yX2_wearInAll, .instanceMethod yX2_wearInAll, .selects RX2 yX2_wearInAll yX2_wearInAll, .code yX2_wearInAll cX2_wearInAll 3 (some .int)] ++ wsX00 ++ wsX20)
def wsX1_init : List Cond := .code yX1_init cX1_init 1 none :: ([.methodLink RX1 3 objectInit, .instanceMethod objectInit, .code objectInit ⟨#[0xb1]⟩ 1 none, .arrayClass .int, .fieldLink RX1 9 "TypeFoundry$Setting" "left" "[I", .fieldLink RX1 15 "TypeFoundry$Setting" "taken" "[I"] ++ wsX10)
def wsX2_at : List Cond := .code yX2_at cX2_at 3 (some .int) :: ([.fieldLink RX2 9 "TypeFoundry$Sorts" "numbers" "[I"] ++ wsX20)
def wsX2_ofSign : List Cond := .code yX2_ofSign cX2_ofSign 4 (some .int) :: ([.methodLink RX2 15 yX2_at, .instanceMethod yX2_at, .selects RX2 yX2_at yX2_at, .initialized RX2, .code yX2_at cX2_at 3 (some .int), .fieldLink RX2 9 "TypeFoundry$Sorts" "numbers" "[I"] ++ wsX20)
def wsX1_fillFrom : List Cond := .code yX1_fillFrom cX1_fillFrom 3 none :: ([.fieldLink RX1 9 "TypeFoundry$Setting" "left" "[I", .methodLink RX1 18 yX2_ofSign, .instanceMethod yX2_ofSign, .selects RX2 yX2_ofSign yX2_ofSign, .initialized RX2, .code yX2_ofSign cX2_ofSign 4 (some .int), .methodLink RX2 15 yX2_at, .instanceMethod yX2_at, .selects RX2 yX2_at yX2_at, .code yX2_at cX2_at 3 (some .int), .fieldLink RX2 9 "TypeFoundry$Sorts" "numbers" "[I"] ++ wsX10 ++ wsX20)
def wsJ7_fill_53178 : List Cond := .code yJ7_fill_53178 cJ7_fill_53178 4 none :: ([])
def wsX1_fillWithoutEnd : List Cond := .code yX1_fillWithoutEnd cX1_fillWithoutEnd 1 none :: ([.fieldLink RX1 9 "TypeFoundry$Setting" "left" "[I", .methodLink RX1 24 yJ7_fill_53178, .static yJ7_fill_53178, .initialized RJ7, .code yJ7_fill_53178 cJ7_fill_53178 4 none] ++ wsX10)
def wsX1_takenOfPlenty : List Cond := .code yX1_takenOfPlenty cX1_takenOfPlenty 2 (some .int) :: ([.fieldLink RX1 9 "TypeFoundry$Setting" "left" "[I"] ++ wsX10)
def wsX1_taken : List Cond := .code yX1_taken cX1_taken 2 (some .int) :: ([.fieldLink RX1 15 "TypeFoundry$Setting" "taken" "[I"] ++ wsX10)
def wsX3_firstPlace : List Cond := .code yX3_firstPlace cX3_firstPlace 1 (some .int) :: ([.fieldLink RX3 15 "TypeFoundry$Word" "firstPlace" "I"] ++ wsX30)
def wsX3_letterAt : List Cond := .code yX3_letterAt cX3_letterAt 2 (some .int) :: ([.fieldLink RX3 15 "TypeFoundry$Word" "firstPlace" "I", .fieldLink RX3 9 "TypeFoundry$Word" "letters" "[I"] ++ wsX30)
def wsX3_ligatureAt : List Cond := .code yX3_ligatureAt cX3_ligatureAt 2 (some .int) :: ([.methodLink RX3 20 yX3_letterAt, .instanceMethod yX3_letterAt, .selects RX3 yX3_letterAt yX3_letterAt, .initialized RX3, .code yX3_letterAt cX3_letterAt 2 (some .int), .fieldLink RX3 15 "TypeFoundry$Word" "firstPlace" "I", .fieldLink RX3 9 "TypeFoundry$Word" "letters" "[I"] ++ wsX30)
def wsX1_signFor : List Cond := .code yX1_signFor cX1_signFor 4 (some .int) :: ([.fieldLink RX1 9 "TypeFoundry$Setting" "left" "[I", .methodLink RX1 60 yX3_ligatureAt, .instanceMethod yX3_ligatureAt, .selects RX3 yX3_ligatureAt yX3_ligatureAt, .initialized RX3, .code yX3_ligatureAt cX3_ligatureAt 2 (some .int), .methodLink RX3 20 yX3_letterAt, .instanceMethod yX3_letterAt, .selects RX3 yX3_letterAt yX3_letterAt, .code yX3_letterAt cX3_letterAt 2 (some .int), .fieldLink RX3 15 "TypeFoundry$Word" "firstPlace" "I", .fieldLink RX3 9 "TypeFoundry$Word" "letters" "[I", .methodLink RX1 63 yX3_letterAt] ++ wsX10 ++ wsX30)
def wsX4_isLigature : List Cond := .code yX4_isLigature cX4_isLigature 1 (some .boolean) :: ([])
def wsX1_lay_r1 : List Cond := [Cond.fieldLink RX1 15 "TypeFoundry$Setting" "taken" "[I", Cond.fieldLink RX1 9 "TypeFoundry$Setting" "left" "[I", Cond.methodLink RX1 24 yJ7_fill_53178, Cond.static yJ7_fill_53178, Cond.initialized RJ7, Cond.code yJ7_fill_53178 cJ7_fill_53178 4 none, Cond.methodLink RX1 30 yX3_firstPlace, Cond.instanceMethod yX3_firstPlace, Cond.selects RX3 yX3_firstPlace yX3_firstPlace, Cond.initialized RX3, Cond.code yX3_firstPlace cX3_firstPlace 1 (some .int), Cond.fieldLink RX3 15 "TypeFoundry$Word" "firstPlace" "I", Cond.methodLink RX1 36 yX1_signFor, Cond.instanceMethod yX1_signFor, Cond.selects RX1 yX1_signFor yX1_signFor, Cond.initialized RX1, Cond.code yX1_signFor cX1_signFor 4 (some .int), Cond.methodLink RX1 60 yX3_ligatureAt, Cond.instanceMethod yX3_ligatureAt, Cond.selects RX3 yX3_ligatureAt yX3_ligatureAt, Cond.code yX3_ligatureAt cX3_ligatureAt 2 (some .int), Cond.methodLink RX3 20 yX3_letterAt, Cond.instanceMethod yX3_letterAt, Cond.selects RX3 yX3_letterAt yX3_letterAt]
def wsX1_lay_r2 : List Cond := [Cond.code yX3_letterAt cX3_letterAt 2 (some .int), Cond.fieldLink RX3 9 "TypeFoundry$Word" "letters" "[I", Cond.methodLink RX1 63 yX3_letterAt, Cond.static yX4_isLigature, Cond.initialized RX4, Cond.code yX4_isLigature cX4_isLigature 1 (some .boolean)]
def wsX1_lay : List Cond := .code yX1_lay cX1_lay 5 (some .int) :: ((wsX1_lay_r1 ++ wsX1_lay_r2) ++ wsX10 ++ wsX30)
def wsX1_layTheSameAgain : List Cond := .code yX1_layTheSameAgain cX1_layTheSameAgain 3 (some .int) :: ([.constant RX1 53 (2147483647), .fieldLink RX1 15 "TypeFoundry$Setting" "taken" "[I", .fieldLink RX1 9 "TypeFoundry$Setting" "left" "[I", .methodLink RX1 54 Lib.Math.min.name, .static Lib.Math.min.name, .initialized "java/lang/Math", .code Lib.Math.min.name Lib.Math.min.code 2 (some .int)] ++ wsX10)
def wsX1_layTillOneLacks_r1 : List Cond := [Cond.methodLink RX1 44 yX1_lay, Cond.instanceMethod yX1_lay, Cond.selects RX1 yX1_lay yX1_lay, Cond.initialized RX1, Cond.code yX1_lay cX1_lay 5 (some .int), Cond.fieldLink RX1 15 "TypeFoundry$Setting" "taken" "[I", Cond.fieldLink RX1 9 "TypeFoundry$Setting" "left" "[I", Cond.methodLink RX1 24 yJ7_fill_53178, Cond.static yJ7_fill_53178, Cond.initialized RJ7, Cond.code yJ7_fill_53178 cJ7_fill_53178 4 none, Cond.methodLink RX1 30 yX3_firstPlace, Cond.instanceMethod yX3_firstPlace, Cond.selects RX3 yX3_firstPlace yX3_firstPlace, Cond.initialized RX3, Cond.code yX3_firstPlace cX3_firstPlace 1 (some .int), Cond.fieldLink RX3 15 "TypeFoundry$Word" "firstPlace" "I", Cond.methodLink RX1 36 yX1_signFor, Cond.instanceMethod yX1_signFor, Cond.selects RX1 yX1_signFor yX1_signFor, Cond.code yX1_signFor cX1_signFor 4 (some .int), Cond.methodLink RX1 60 yX3_ligatureAt, Cond.instanceMethod yX3_ligatureAt, Cond.selects RX3 yX3_ligatureAt yX3_ligatureAt]
def wsX1_layTillOneLacks_r2 : List Cond := [Cond.code yX3_ligatureAt cX3_ligatureAt 2 (some .int), Cond.methodLink RX3 20 yX3_letterAt, Cond.instanceMethod yX3_letterAt, Cond.selects RX3 yX3_letterAt yX3_letterAt, Cond.code yX3_letterAt cX3_letterAt 2 (some .int), Cond.fieldLink RX3 9 "TypeFoundry$Word" "letters" "[I", Cond.methodLink RX1 63 yX3_letterAt, Cond.static yX4_isLigature, Cond.initialized RX4, Cond.code yX4_isLigature cX4_isLigature 1 (some .boolean), Cond.methodLink RX1 48 yX1_layTheSameAgain, Cond.instanceMethod yX1_layTheSameAgain, Cond.selects RX1 yX1_layTheSameAgain yX1_layTheSameAgain, Cond.code yX1_layTheSameAgain cX1_layTheSameAgain 3 (some .int), Cond.constant RX1 53 (2147483647), Cond.methodLink RX1 54 Lib.Math.min.name, Cond.static Lib.Math.min.name, Cond.initialized "java/lang/Math", Cond.code Lib.Math.min.name Lib.Math.min.code 2 (some .int)]
def wsX1_layTillOneLacks : List Cond := .code yX1_layTillOneLacks cX1_layTillOneLacks 4 (some .int) :: ((wsX1_layTillOneLacks_r1 ++ wsX1_layTillOneLacks_r2) ++ wsX10 ++ wsX30)
def wsX2_change : List Cond := .code yX2_change cX2_change 4 none :: ([.fieldLink RX2 9 "TypeFoundry$Sorts" "numbers" "[I"] ++ wsX20)
def wsX2_greatestWear : List Cond := .code yX2_greatestWear cX2_greatestWear 3 (some .int) :: ([.fieldLink RX2 9 "TypeFoundry$Sorts" "numbers" "[I", .methodLink RX2 19 Lib.Math.max.name, .static Lib.Math.max.name, .initialized "java/lang/Math", .code Lib.Math.max.name Lib.Math.max.code 2 (some .int)] ++ wsX20)
def wsX2_metalFrom : List Cond := .code yX2_metalFrom cX2_metalFrom 5 (some .int) :: ([.methodLink RX2 15 yX2_at, .instanceMethod yX2_at, .selects RX2 yX2_at yX2_at, .initialized RX2, .code yX2_at cX2_at 3 (some .int), .fieldLink RX2 9 "TypeFoundry$Sorts" "numbers" "[I", .static yX4_isLigature, .initialized RX4, .code yX4_isLigature cX4_isLigature 1 (some .boolean)] ++ wsX20)
def wsX2_empty : List Cond := .code yX2_empty cX2_empty 4 (some .int) :: ([.methodLink RX2 15 yX2_at, .instanceMethod yX2_at, .selects RX2 yX2_at yX2_at, .initialized RX2, .code yX2_at cX2_at 3 (some .int), .fieldLink RX2 9 "TypeFoundry$Sorts" "numbers" "[I", .methodLink RX2 35 yX2_change, .instanceMethod yX2_change, .selects RX2 yX2_change yX2_change, .code yX2_change cX2_change 4 none] ++ wsX20)
def wsX2_dropFrom : List Cond := .code yX2_dropFrom cX2_dropFrom 5 (some .int) :: ([.methodLink RX2 28 yX2_empty, .instanceMethod yX2_empty, .selects RX2 yX2_empty yX2_empty, .initialized RX2, .code yX2_empty cX2_empty 4 (some .int), .methodLink RX2 15 yX2_at, .instanceMethod yX2_at, .selects RX2 yX2_at yX2_at, .code yX2_at cX2_at 3 (some .int), .fieldLink RX2 9 "TypeFoundry$Sorts" "numbers" "[I", .methodLink RX2 35 yX2_change, .instanceMethod yX2_change, .selects RX2 yX2_change yX2_change, .code yX2_change cX2_change 4 none] ++ wsX20)
def wsX2_moveAt : List Cond := .code yX2_moveAt cX2_moveAt 6 (some .int) :: ([.methodLink RX2 41 Lib.Math.min.name, .static Lib.Math.min.name, .initialized "java/lang/Math", .code Lib.Math.min.name Lib.Math.min.code 2 (some .int), .methodLink RX2 15 yX2_at, .instanceMethod yX2_at, .selects RX2 yX2_at yX2_at, .initialized RX2, .code yX2_at cX2_at 3 (some .int), .fieldLink RX2 9 "TypeFoundry$Sorts" "numbers" "[I", .methodLink RX2 35 yX2_change, .instanceMethod yX2_change, .selects RX2 yX2_change yX2_change, .code yX2_change cX2_change 4 none] ++ wsX20)
def wsX2_moveLeastWorn : List Cond := .code yX2_moveLeastWorn cX2_moveLeastWorn 8 (some .int) :: ([.methodLink RX2 31 yX2_moveAt, .instanceMethod yX2_moveAt, .selects RX2 yX2_moveAt yX2_moveAt, .initialized RX2, .code yX2_moveAt cX2_moveAt 6 (some .int), .methodLink RX2 41 Lib.Math.min.name, .static Lib.Math.min.name, .initialized "java/lang/Math", .code Lib.Math.min.name Lib.Math.min.code 2 (some .int), .methodLink RX2 15 yX2_at, .instanceMethod yX2_at, .selects RX2 yX2_at yX2_at, .code yX2_at cX2_at 3 (some .int), .fieldLink RX2 9 "TypeFoundry$Sorts" "numbers" "[I", .methodLink RX2 35 yX2_change, .instanceMethod yX2_change, .selects RX2 yX2_change yX2_change, .code yX2_change cX2_change 4 none] ++ wsX20)
def wsX2_moveMostWorn : List Cond := .code yX2_moveMostWorn cX2_moveMostWorn 8 (some .int) :: ([.methodLink RX2 31 yX2_moveAt, .instanceMethod yX2_moveAt, .selects RX2 yX2_moveAt yX2_moveAt, .initialized RX2, .code yX2_moveAt cX2_moveAt 6 (some .int), .methodLink RX2 41 Lib.Math.min.name, .static Lib.Math.min.name, .initialized "java/lang/Math", .code Lib.Math.min.name Lib.Math.min.code 2 (some .int), .methodLink RX2 15 yX2_at, .instanceMethod yX2_at, .selects RX2 yX2_at yX2_at, .code yX2_at cX2_at 3 (some .int), .fieldLink RX2 9 "TypeFoundry$Sorts" "numbers" "[I", .methodLink RX2 35 yX2_change, .instanceMethod yX2_change, .selects RX2 yX2_change yX2_change, .code yX2_change cX2_change 4 none] ++ wsX20)
def wsX2_wearBy : List Cond := .code yX2_wearBy cX2_wearBy 6 (some .int) :: ([.methodLink RX2 28 yX2_empty, .instanceMethod yX2_empty, .selects RX2 yX2_empty yX2_empty, .initialized RX2, .code yX2_empty cX2_empty 4 (some .int), .methodLink RX2 15 yX2_at, .instanceMethod yX2_at, .selects RX2 yX2_at yX2_at, .code yX2_at cX2_at 3 (some .int), .fieldLink RX2 9 "TypeFoundry$Sorts" "numbers" "[I", .methodLink RX2 35 yX2_change, .instanceMethod yX2_change, .selects RX2 yX2_change yX2_change, .code yX2_change cX2_change 4 none] ++ wsX20)
def wsX2_digestOnto : List Cond := .code yX2_digestOnto cX2_digestOnto 6 (some .long) :: ([.fieldLink RX2 9 "TypeFoundry$Sorts" "numbers" "[I", .constantLong RX2 39 (31)] ++ wsX20)
def wsX3_init : List Cond := .code yX3_init cX3_init 1 none :: ([.methodLink RX3 3 objectInit, .instanceMethod objectInit, .code objectInit ⟨#[0xb1]⟩ 1 none, .arrayClass .int, .fieldLink RX3 9 "TypeFoundry$Word" "letters" "[I", .fieldLink RX3 15 "TypeFoundry$Word" "firstPlace" "I"] ++ wsX30)
def wsX3_spell : List Cond := .code yX3_spell cX3_spell 5 (some .boolean) :: ([.constant RX3 19 (387420488), .fieldLink RX3 9 "TypeFoundry$Word" "letters" "[I", .fieldLink RX3 15 "TypeFoundry$Word" "firstPlace" "I"] ++ wsX30)
def wsX3_howOften : List Cond := .code yX3_howOften cX3_howOften 4 (some .int) :: ([.fieldLink RX3 15 "TypeFoundry$Word" "firstPlace" "I", .methodLink RX3 20 yX3_letterAt, .instanceMethod yX3_letterAt, .selects RX3 yX3_letterAt yX3_letterAt, .initialized RX3, .code yX3_letterAt cX3_letterAt 2 (some .int), .fieldLink RX3 9 "TypeFoundry$Word" "letters" "[I"] ++ wsX30)
def wsX4_init_r1 : List Cond := [Cond.methodLink RX4 1 objectInit, Cond.instanceMethod objectInit, Cond.code objectInit ⟨#[0xb1]⟩ 1 none, Cond.classLink RX4 7 RX2, Cond.instantiable RX2 1, Cond.initialized RX2, Cond.fieldLink RX4 10 "TypeFoundry" "stock" "LTypeFoundry$Sorts;", Cond.classLink RX4 16 RX0, Cond.fieldLink RX4 18 "TypeFoundry" "printers" "[LTypeFoundry$Printer;", Cond.fieldLink RX4 22 "TypeFoundry" "metal" "I", Cond.classLink RX4 26 RX3, Cond.instantiable RX3 2, Cond.initialized RX3, Cond.fieldLink RX4 29 "TypeFoundry" "spelled" "LTypeFoundry$Word;", Cond.classLink RX4 33 RX1, Cond.instantiable RX1 2, Cond.initialized RX1, Cond.fieldLink RX4 36 "TypeFoundry" "setting" "LTypeFoundry$Setting;", Cond.instanceMethod yX2_init, Cond.code yX2_init cX2_init 1 none, Cond.methodLink RX2 3 objectInit, Cond.arrayClass .int, Cond.fieldLink RX2 9 "TypeFoundry$Sorts" "numbers" "[I", Cond.instanceMethod yX3_init]
def wsX4_init_r2 : List Cond := [Cond.code yX3_init cX3_init 1 none, Cond.methodLink RX3 3 objectInit, Cond.fieldLink RX3 9 "TypeFoundry$Word" "letters" "[I", Cond.fieldLink RX3 15 "TypeFoundry$Word" "firstPlace" "I", Cond.instanceMethod yX1_init, Cond.code yX1_init cX1_init 1 none, Cond.methodLink RX1 3 objectInit, Cond.fieldLink RX1 9 "TypeFoundry$Setting" "left" "[I", Cond.fieldLink RX1 15 "TypeFoundry$Setting" "taken" "[I"]
def wsX4_init : List Cond := .code yX4_init cX4_init 1 none :: ((wsX4_init_r1 ++ wsX4_init_r2) ++ wsX20 ++ wsX40 ++ wsX30 ++ wsX10)
def wsX4_needSign : List Cond := .code yX4_needSign cX4_needSign 1 none :: ([.classLink RX4 179 "java/lang/IndexOutOfBoundsException", .initialized "java/lang/IndexOutOfBoundsException"] ++ (vx_atS RX4 183 "java/lang/IndexOutOfBoundsException" ["java/lang/RuntimeException", "java/lang/Exception"]).filter goodWord)
def wsX4_needMany : List Cond := .code yX4_needMany cX4_needMany 1 none :: ([.classLink RX4 71 "java/lang/IllegalArgumentException", .initialized "java/lang/IllegalArgumentException"] ++ (vx_atS RX4 75 "java/lang/IllegalArgumentException" ["java/lang/RuntimeException", "java/lang/Exception"]).filter goodWord)
def wsX4_cast_r1 : List Cond := [Cond.classLink RX4 51 "java/lang/IllegalStateException", Cond.initialized "java/lang/IllegalStateException", Cond.fieldLink RX4 22 "TypeFoundry" "metal" "I", Cond.fieldLink RX4 10 "TypeFoundry" "stock" "LTypeFoundry$Sorts;", Cond.fieldLink RX4 68 "TypeFoundry" "everCast" "I", Cond.methodLink RX4 40 yX4_needSign, Cond.static yX4_needSign, Cond.initialized RX4, Cond.code yX4_needSign cX4_needSign 1 none, Cond.classLink RX4 179 "java/lang/IndexOutOfBoundsException", Cond.initialized "java/lang/IndexOutOfBoundsException", Cond.methodLink RX4 44 yX4_needMany, Cond.static yX4_needMany, Cond.code yX4_needMany cX4_needMany 1 none, Cond.classLink RX4 71 "java/lang/IllegalArgumentException", Cond.initialized "java/lang/IllegalArgumentException", Cond.methodLink RX4 47 yX4_isLigature, Cond.static yX4_isLigature, Cond.code yX4_isLigature cX4_isLigature 1 (some .boolean), Cond.methodLink RX4 58 yX2_ofSign, Cond.instanceMethod yX2_ofSign, Cond.selects RX2 yX2_ofSign yX2_ofSign, Cond.initialized RX2, Cond.code yX2_ofSign cX2_ofSign 4 (some .int)]
def wsX4_cast_r2 : List Cond := [Cond.methodLink RX2 15 yX2_at, Cond.instanceMethod yX2_at, Cond.selects RX2 yX2_at yX2_at, Cond.code yX2_at cX2_at 3 (some .int), Cond.fieldLink RX2 9 "TypeFoundry$Sorts" "numbers" "[I", Cond.methodLink RX4 64 yX2_change, Cond.instanceMethod yX2_change, Cond.selects RX2 yX2_change yX2_change, Cond.code yX2_change cX2_change 4 none]
def wsX4_cast : List Cond := .code yX4_cast cX4_cast 4 (some .int) :: ((wsX4_cast_r1 ++ wsX4_cast_r2) ++ wsX40 ++ wsX20 ++ (vx_atS RX4 55 "java/lang/IllegalStateException" ["java/lang/RuntimeException", "java/lang/Exception"]).filter goodWord ++ (vx_atS RX4 183 "java/lang/IndexOutOfBoundsException" ["java/lang/RuntimeException", "java/lang/Exception"]).filter goodWord ++ (vx_atS RX4 75 "java/lang/IllegalArgumentException" ["java/lang/RuntimeException", "java/lang/Exception"]).filter goodWord)
def wsX4_melt_r1 : List Cond := [Cond.classLink RX4 71 "java/lang/IllegalArgumentException", Cond.initialized "java/lang/IllegalArgumentException", Cond.classLink RX4 51 "java/lang/IllegalStateException", Cond.initialized "java/lang/IllegalStateException", Cond.fieldLink RX4 10 "TypeFoundry" "stock" "LTypeFoundry$Sorts;", Cond.fieldLink RX4 22 "TypeFoundry" "metal" "I", Cond.fieldLink RX4 84 "TypeFoundry" "everMelted" "I", Cond.methodLink RX4 76 yX2_metalFrom, Cond.instanceMethod yX2_metalFrom, Cond.selects RX2 yX2_metalFrom yX2_metalFrom, Cond.initialized RX2, Cond.code yX2_metalFrom cX2_metalFrom 5 (some .int), Cond.methodLink RX2 15 yX2_at, Cond.instanceMethod yX2_at, Cond.selects RX2 yX2_at yX2_at, Cond.code yX2_at cX2_at 3 (some .int), Cond.fieldLink RX2 9 "TypeFoundry$Sorts" "numbers" "[I", Cond.static yX4_isLigature, Cond.initialized RX4, Cond.code yX4_isLigature cX4_isLigature 1 (some .boolean), Cond.methodLink RX4 81 yX2_dropFrom, Cond.instanceMethod yX2_dropFrom, Cond.selects RX2 yX2_dropFrom yX2_dropFrom, Cond.code yX2_dropFrom cX2_dropFrom 5 (some .int)]
def wsX4_melt_r2 : List Cond := [Cond.methodLink RX2 28 yX2_empty, Cond.instanceMethod yX2_empty, Cond.selects RX2 yX2_empty yX2_empty, Cond.code yX2_empty cX2_empty 4 (some .int), Cond.methodLink RX2 35 yX2_change, Cond.instanceMethod yX2_change, Cond.selects RX2 yX2_change yX2_change, Cond.code yX2_change cX2_change 4 none]
def wsX4_melt : List Cond := .code yX4_melt cX4_melt 4 (some .int) :: ((wsX4_melt_r1 ++ wsX4_melt_r2) ++ wsX40 ++ wsX20 ++ (vx_atS RX4 75 "java/lang/IllegalArgumentException" ["java/lang/RuntimeException", "java/lang/Exception"]).filter goodWord ++ (vx_atS RX4 55 "java/lang/IllegalStateException" ["java/lang/RuntimeException", "java/lang/Exception"]).filter goodWord)
def wsX4_buy : List Cond := .code yX4_buy cX4_buy 2 (some .int) :: ([.classLink RX4 71 "java/lang/IllegalArgumentException", .initialized "java/lang/IllegalArgumentException", .classLink RX4 51 "java/lang/IllegalStateException", .initialized "java/lang/IllegalStateException", .fieldLink RX4 22 "TypeFoundry" "metal" "I"] ++ wsX40 ++ (vx_atS RX4 75 "java/lang/IllegalArgumentException" ["java/lang/RuntimeException", "java/lang/Exception"]).filter goodWord ++ (vx_atS RX4 55 "java/lang/IllegalStateException" ["java/lang/RuntimeException", "java/lang/Exception"]).filter goodWord)
def wsX4_come_r1 : List Cond := [Cond.classLink RX4 71 "java/lang/IllegalArgumentException", Cond.initialized "java/lang/IllegalArgumentException", Cond.classLink RX4 51 "java/lang/IllegalStateException", Cond.initialized "java/lang/IllegalStateException", Cond.fieldLink RX4 91 "TypeFoundry" "printersThere" "I", Cond.fieldLink RX4 18 "TypeFoundry" "printers" "[LTypeFoundry$Printer;", Cond.classLink RX4 16 RX0, Cond.instantiable RX0 6, Cond.initialized RX0, Cond.methodLink RX4 96 yX0_init, Cond.instanceMethod yX0_init, Cond.code yX0_init cX0_init 2 none, Cond.methodLink RX0 3 objectInit, Cond.instanceMethod objectInit, Cond.code objectInit ⟨#[0xb1]⟩ 1 none, Cond.classLink RX0 9 RX2, Cond.instantiable RX2 1, Cond.initialized RX2, Cond.fieldLink RX0 12 "TypeFoundry$Printer" "tray" "LTypeFoundry$Sorts;", Cond.fieldLink RX0 18 "TypeFoundry$Printer" "form" "LTypeFoundry$Sorts;", Cond.fieldLink RX0 21 "TypeFoundry$Printer" "coins" "I", Cond.instanceMethod yX2_init, Cond.code yX2_init cX2_init 1 none, Cond.methodLink RX2 3 objectInit]
def wsX4_come_r2 : List Cond := [Cond.arrayClass .int, Cond.fieldLink RX2 9 "TypeFoundry$Sorts" "numbers" "[I"]
def wsX4_come : List Cond := .code yX4_come cX4_come 3 (some .int) :: ((wsX4_come_r1 ++ wsX4_come_r2) ++ wsX40 ++ wsX00 ++ wsX20 ++ (vx_atS RX4 75 "java/lang/IllegalArgumentException" ["java/lang/RuntimeException", "java/lang/Exception"]).filter goodWord ++ (vx_atS RX4 55 "java/lang/IllegalStateException" ["java/lang/RuntimeException", "java/lang/Exception"]).filter goodWord)
def wsX4_needPrinter : List Cond := .code yX4_needPrinter cX4_needPrinter 3 (some (.object "TypeFoundry$Printer")) :: ([.classLink RX4 179 "java/lang/IndexOutOfBoundsException", .initialized "java/lang/IndexOutOfBoundsException", .fieldLink RX4 18 "TypeFoundry" "printers" "[LTypeFoundry$Printer;"] ++ wsX40 ++ (vx_atS RX4 183 "java/lang/IndexOutOfBoundsException" ["java/lang/RuntimeException", "java/lang/Exception"]).filter goodWord)
def wsX4_rent_r1 : List Cond := [Cond.classLink RX4 51 "java/lang/IllegalStateException", Cond.initialized "java/lang/IllegalStateException", Cond.fieldLink RX4 10 "TypeFoundry" "stock" "LTypeFoundry$Sorts;", Cond.methodLink RX4 98 yX4_needPrinter, Cond.instanceMethod yX4_needPrinter, Cond.selects RX4 yX4_needPrinter yX4_needPrinter, Cond.initialized RX4, Cond.code yX4_needPrinter cX4_needPrinter 3 (some (.object "TypeFoundry$Printer")), Cond.classLink RX4 179 "java/lang/IndexOutOfBoundsException", Cond.initialized "java/lang/IndexOutOfBoundsException", Cond.fieldLink RX4 18 "TypeFoundry" "printers" "[LTypeFoundry$Printer;", Cond.methodLink RX4 40 yX4_needSign, Cond.static yX4_needSign, Cond.code yX4_needSign cX4_needSign 1 none, Cond.methodLink RX4 44 yX4_needMany, Cond.static yX4_needMany, Cond.code yX4_needMany cX4_needMany 1 none, Cond.classLink RX4 71 "java/lang/IllegalArgumentException", Cond.initialized "java/lang/IllegalArgumentException", Cond.methodLink RX4 58 yX2_ofSign, Cond.instanceMethod yX2_ofSign, Cond.selects RX2 yX2_ofSign yX2_ofSign, Cond.initialized RX2, Cond.code yX2_ofSign cX2_ofSign 4 (some .int)]
def wsX4_rent_r2 : List Cond := [Cond.methodLink RX2 15 yX2_at, Cond.instanceMethod yX2_at, Cond.selects RX2 yX2_at yX2_at, Cond.code yX2_at cX2_at 3 (some .int), Cond.fieldLink RX2 9 "TypeFoundry$Sorts" "numbers" "[I", Cond.methodLink RX4 107 yX2_moveLeastWorn, Cond.instanceMethod yX2_moveLeastWorn, Cond.selects RX2 yX2_moveLeastWorn yX2_moveLeastWorn, Cond.code yX2_moveLeastWorn cX2_moveLeastWorn 8 (some .int), Cond.methodLink RX2 31 yX2_moveAt, Cond.instanceMethod yX2_moveAt, Cond.selects RX2 yX2_moveAt yX2_moveAt, Cond.code yX2_moveAt cX2_moveAt 6 (some .int), Cond.methodLink RX2 41 Lib.Math.min.name, Cond.static Lib.Math.min.name, Cond.initialized "java/lang/Math", Cond.code Lib.Math.min.name Lib.Math.min.code 2 (some .int), Cond.methodLink RX2 35 yX2_change, Cond.instanceMethod yX2_change, Cond.selects RX2 yX2_change yX2_change, Cond.code yX2_change cX2_change 4 none]
def wsX4_rent : List Cond := .code yX4_rent cX4_rent 5 (some .int) :: ((wsX4_rent_r1 ++ wsX4_rent_r2) ++ wsX40 ++ wsX00 ++ wsX20 ++ (vx_atS RX4 55 "java/lang/IllegalStateException" ["java/lang/RuntimeException", "java/lang/Exception"]).filter goodWord ++ (vx_atS RX4 183 "java/lang/IndexOutOfBoundsException" ["java/lang/RuntimeException", "java/lang/Exception"]).filter goodWord ++ (vx_atS RX4 75 "java/lang/IllegalArgumentException" ["java/lang/RuntimeException", "java/lang/Exception"]).filter goodWord)
def wsX4_giveBack_r1 : List Cond := [Cond.classLink RX4 51 "java/lang/IllegalStateException", Cond.initialized "java/lang/IllegalStateException", Cond.fieldLink RX4 10 "TypeFoundry" "stock" "LTypeFoundry$Sorts;", Cond.methodLink RX4 98 yX4_needPrinter, Cond.instanceMethod yX4_needPrinter, Cond.selects RX4 yX4_needPrinter yX4_needPrinter, Cond.initialized RX4, Cond.code yX4_needPrinter cX4_needPrinter 3 (some (.object "TypeFoundry$Printer")), Cond.classLink RX4 179 "java/lang/IndexOutOfBoundsException", Cond.initialized "java/lang/IndexOutOfBoundsException", Cond.fieldLink RX4 18 "TypeFoundry" "printers" "[LTypeFoundry$Printer;", Cond.methodLink RX4 40 yX4_needSign, Cond.static yX4_needSign, Cond.code yX4_needSign cX4_needSign 1 none, Cond.methodLink RX4 44 yX4_needMany, Cond.static yX4_needMany, Cond.code yX4_needMany cX4_needMany 1 none, Cond.classLink RX4 71 "java/lang/IllegalArgumentException", Cond.initialized "java/lang/IllegalArgumentException", Cond.methodLink RX4 58 yX2_ofSign, Cond.instanceMethod yX2_ofSign, Cond.selects RX2 yX2_ofSign yX2_ofSign, Cond.initialized RX2, Cond.code yX2_ofSign cX2_ofSign 4 (some .int)]
def wsX4_giveBack_r2 : List Cond := [Cond.methodLink RX2 15 yX2_at, Cond.instanceMethod yX2_at, Cond.selects RX2 yX2_at yX2_at, Cond.code yX2_at cX2_at 3 (some .int), Cond.fieldLink RX2 9 "TypeFoundry$Sorts" "numbers" "[I", Cond.methodLink RX4 113 yX2_moveMostWorn, Cond.instanceMethod yX2_moveMostWorn, Cond.selects RX2 yX2_moveMostWorn yX2_moveMostWorn, Cond.code yX2_moveMostWorn cX2_moveMostWorn 8 (some .int), Cond.methodLink RX2 31 yX2_moveAt, Cond.instanceMethod yX2_moveAt, Cond.selects RX2 yX2_moveAt yX2_moveAt, Cond.code yX2_moveAt cX2_moveAt 6 (some .int), Cond.methodLink RX2 41 Lib.Math.min.name, Cond.static Lib.Math.min.name, Cond.initialized "java/lang/Math", Cond.code Lib.Math.min.name Lib.Math.min.code 2 (some .int), Cond.methodLink RX2 35 yX2_change, Cond.instanceMethod yX2_change, Cond.selects RX2 yX2_change yX2_change, Cond.code yX2_change cX2_change 4 none]
def wsX4_giveBack : List Cond := .code yX4_giveBack cX4_giveBack 5 (some .int) :: ((wsX4_giveBack_r1 ++ wsX4_giveBack_r2) ++ wsX00 ++ wsX40 ++ wsX20 ++ (vx_atS RX4 55 "java/lang/IllegalStateException" ["java/lang/RuntimeException", "java/lang/Exception"]).filter goodWord ++ (vx_atS RX4 183 "java/lang/IndexOutOfBoundsException" ["java/lang/RuntimeException", "java/lang/Exception"]).filter goodWord ++ (vx_atS RX4 75 "java/lang/IllegalArgumentException" ["java/lang/RuntimeException", "java/lang/Exception"]).filter goodWord)
def wsX4_pay : List Cond := .code yX4_pay cX4_pay 4 (some .int) :: ([.methodLink RX4 122 Lib.Math.min.name, .static Lib.Math.min.name, .initialized "java/lang/Math", .code Lib.Math.min.name Lib.Math.min.code 2 (some .int), .fieldLink RX4 128 "TypeFoundry" "coins" "I", .methodLink RX4 98 yX4_needPrinter, .instanceMethod yX4_needPrinter, .selects RX4 yX4_needPrinter yX4_needPrinter, .initialized RX4, .code yX4_needPrinter cX4_needPrinter 3 (some (.object "TypeFoundry$Printer")), .classLink RX4 179 "java/lang/IndexOutOfBoundsException", .initialized "java/lang/IndexOutOfBoundsException", .fieldLink RX4 18 "TypeFoundry" "printers" "[LTypeFoundry$Printer;"] ++ wsX00 ++ wsX40 ++ (vx_atS RX4 183 "java/lang/IndexOutOfBoundsException" ["java/lang/RuntimeException", "java/lang/Exception"]).filter goodWord)
def wsX4_needWord : List Cond := .code yX4_needWord cX4_needWord 2 (some (.object "TypeFoundry$Word")) :: ([.classLink RX4 71 "java/lang/IllegalArgumentException", .initialized "java/lang/IllegalArgumentException", .fieldLink RX4 29 "TypeFoundry" "spelled" "LTypeFoundry$Word;", .methodLink RX4 228 yX3_spell, .instanceMethod yX3_spell, .selects RX3 yX3_spell yX3_spell, .initialized RX3, .code yX3_spell cX3_spell 5 (some .boolean), .constant RX3 19 (387420488), .fieldLink RX3 9 "TypeFoundry$Word" "letters" "[I", .fieldLink RX3 15 "TypeFoundry$Word" "firstPlace" "I"] ++ wsX40 ++ wsX30 ++ (vx_atS RX4 75 "java/lang/IllegalArgumentException" ["java/lang/RuntimeException", "java/lang/Exception"]).filter goodWord)
def wsX4_set_r1 : List Cond := [Cond.classLink RX4 51 "java/lang/IllegalStateException", Cond.initialized "java/lang/IllegalStateException", Cond.fieldLink RX4 36 "TypeFoundry" "setting" "LTypeFoundry$Setting;", Cond.methodLink RX4 98 yX4_needPrinter, Cond.instanceMethod yX4_needPrinter, Cond.selects RX4 yX4_needPrinter yX4_needPrinter, Cond.initialized RX4, Cond.code yX4_needPrinter cX4_needPrinter 3 (some (.object "TypeFoundry$Printer")), Cond.classLink RX4 179 "java/lang/IndexOutOfBoundsException", Cond.initialized "java/lang/IndexOutOfBoundsException", Cond.fieldLink RX4 18 "TypeFoundry" "printers" "[LTypeFoundry$Printer;", Cond.methodLink RX4 129 yX4_needWord, Cond.instanceMethod yX4_needWord, Cond.selects RX4 yX4_needWord yX4_needWord, Cond.code yX4_needWord cX4_needWord 2 (some (.object "TypeFoundry$Word")), Cond.classLink RX4 71 "java/lang/IllegalArgumentException", Cond.initialized "java/lang/IllegalArgumentException", Cond.fieldLink RX4 29 "TypeFoundry" "spelled" "LTypeFoundry$Word;", Cond.methodLink RX4 228 yX3_spell, Cond.instanceMethod yX3_spell, Cond.selects RX3 yX3_spell yX3_spell, Cond.initialized RX3, Cond.code yX3_spell cX3_spell 5 (some .boolean), Cond.constant RX3 19 (387420488)]
def wsX4_set_r2 : List Cond := [Cond.fieldLink RX3 9 "TypeFoundry$Word" "letters" "[I", Cond.fieldLink RX3 15 "TypeFoundry$Word" "firstPlace" "I", Cond.methodLink RX4 133 yX1_fillFrom, Cond.instanceMethod yX1_fillFrom, Cond.selects RX1 yX1_fillFrom yX1_fillFrom, Cond.initialized RX1, Cond.code yX1_fillFrom cX1_fillFrom 3 none, Cond.fieldLink RX1 9 "TypeFoundry$Setting" "left" "[I", Cond.methodLink RX1 18 yX2_ofSign, Cond.instanceMethod yX2_ofSign, Cond.selects RX2 yX2_ofSign yX2_ofSign, Cond.initialized RX2, Cond.code yX2_ofSign cX2_ofSign 4 (some .int), Cond.methodLink RX2 15 yX2_at, Cond.instanceMethod yX2_at, Cond.selects RX2 yX2_at yX2_at, Cond.code yX2_at cX2_at 3 (some .int), Cond.fieldLink RX2 9 "TypeFoundry$Sorts" "numbers" "[I", Cond.methodLink RX4 137 yX1_lay, Cond.instanceMethod yX1_lay, Cond.selects RX1 yX1_lay yX1_lay, Cond.code yX1_lay cX1_lay 5 (some .int), Cond.fieldLink RX1 15 "TypeFoundry$Setting" "taken" "[I", Cond.methodLink RX1 24 yJ7_fill_53178]
def wsX4_set_r3 : List Cond := [Cond.static yJ7_fill_53178, Cond.initialized RJ7, Cond.code yJ7_fill_53178 cJ7_fill_53178 4 none, Cond.methodLink RX1 30 yX3_firstPlace, Cond.instanceMethod yX3_firstPlace, Cond.selects RX3 yX3_firstPlace yX3_firstPlace, Cond.code yX3_firstPlace cX3_firstPlace 1 (some .int), Cond.methodLink RX1 36 yX1_signFor, Cond.instanceMethod yX1_signFor, Cond.selects RX1 yX1_signFor yX1_signFor, Cond.code yX1_signFor cX1_signFor 4 (some .int), Cond.methodLink RX1 60 yX3_ligatureAt, Cond.instanceMethod yX3_ligatureAt, Cond.selects RX3 yX3_ligatureAt yX3_ligatureAt, Cond.code yX3_ligatureAt cX3_ligatureAt 2 (some .int), Cond.methodLink RX3 20 yX3_letterAt, Cond.instanceMethod yX3_letterAt, Cond.selects RX3 yX3_letterAt yX3_letterAt, Cond.code yX3_letterAt cX3_letterAt 2 (some .int), Cond.methodLink RX1 63 yX3_letterAt, Cond.static yX4_isLigature, Cond.code yX4_isLigature cX4_isLigature 1 (some .boolean), Cond.methodLink RX4 146 yX2_inAll, Cond.instanceMethod yX2_inAll]
def wsX4_set_r4 : List Cond := [Cond.selects RX2 yX2_inAll yX2_inAll, Cond.code yX2_inAll cX2_inAll 3 (some .int), Cond.methodLink RX4 152 yX1_taken, Cond.instanceMethod yX1_taken, Cond.selects RX1 yX1_taken yX1_taken, Cond.code yX1_taken cX1_taken 2 (some .int), Cond.methodLink RX4 113 yX2_moveMostWorn, Cond.instanceMethod yX2_moveMostWorn, Cond.selects RX2 yX2_moveMostWorn yX2_moveMostWorn, Cond.code yX2_moveMostWorn cX2_moveMostWorn 8 (some .int), Cond.methodLink RX2 31 yX2_moveAt, Cond.instanceMethod yX2_moveAt, Cond.selects RX2 yX2_moveAt yX2_moveAt, Cond.code yX2_moveAt cX2_moveAt 6 (some .int), Cond.methodLink RX2 41 Lib.Math.min.name, Cond.static Lib.Math.min.name, Cond.initialized "java/lang/Math", Cond.code Lib.Math.min.name Lib.Math.min.code 2 (some .int), Cond.methodLink RX2 35 yX2_change, Cond.instanceMethod yX2_change, Cond.selects RX2 yX2_change yX2_change, Cond.code yX2_change cX2_change 4 none]
def wsX4_set : List Cond := .code yX4_set cX4_set 7 (some .int) :: ((wsX4_set_r1 ++ (wsX4_set_r2 ++ (wsX4_set_r3 ++ wsX4_set_r4))) ++ wsX40 ++ wsX00 ++ wsX30 ++ wsX10 ++ wsX20 ++ (vx_atS RX4 55 "java/lang/IllegalStateException" ["java/lang/RuntimeException", "java/lang/Exception"]).filter goodWord ++ (vx_atS RX4 183 "java/lang/IndexOutOfBoundsException" ["java/lang/RuntimeException", "java/lang/Exception"]).filter goodWord ++ (vx_atS RX4 75 "java/lang/IllegalArgumentException" ["java/lang/RuntimeException", "java/lang/Exception"]).filter goodWord)
def wsX4_print_r1 : List Cond := [Cond.classLink RX4 71 "java/lang/IllegalArgumentException", Cond.initialized "java/lang/IllegalArgumentException", Cond.classLink RX4 51 "java/lang/IllegalStateException", Cond.initialized "java/lang/IllegalStateException", Cond.fieldLink RX4 168 "TypeFoundry" "everBroken" "I", Cond.methodLink RX4 98 yX4_needPrinter, Cond.instanceMethod yX4_needPrinter, Cond.selects RX4 yX4_needPrinter yX4_needPrinter, Cond.initialized RX4, Cond.code yX4_needPrinter cX4_needPrinter 3 (some (.object "TypeFoundry$Printer")), Cond.classLink RX4 179 "java/lang/IndexOutOfBoundsException", Cond.initialized "java/lang/IndexOutOfBoundsException", Cond.fieldLink RX4 18 "TypeFoundry" "printers" "[LTypeFoundry$Printer;", Cond.methodLink RX4 146 yX2_inAll, Cond.instanceMethod yX2_inAll, Cond.selects RX2 yX2_inAll yX2_inAll, Cond.initialized RX2, Cond.code yX2_inAll cX2_inAll 3 (some .int), Cond.fieldLink RX2 9 "TypeFoundry$Sorts" "numbers" "[I", Cond.methodLink RX4 162 yX2_wearBy, Cond.instanceMethod yX2_wearBy, Cond.selects RX2 yX2_wearBy yX2_wearBy, Cond.code yX2_wearBy cX2_wearBy 6 (some .int), Cond.methodLink RX2 28 yX2_empty]
def wsX4_print_r2 : List Cond := [Cond.instanceMethod yX2_empty, Cond.selects RX2 yX2_empty yX2_empty, Cond.code yX2_empty cX2_empty 4 (some .int), Cond.methodLink RX2 15 yX2_at, Cond.instanceMethod yX2_at, Cond.selects RX2 yX2_at yX2_at, Cond.code yX2_at cX2_at 3 (some .int), Cond.methodLink RX2 35 yX2_change, Cond.instanceMethod yX2_change, Cond.selects RX2 yX2_change yX2_change, Cond.code yX2_change cX2_change 4 none]
def wsX4_print : List Cond := .code yX4_print cX4_print 5 (some .int) :: ((wsX4_print_r1 ++ wsX4_print_r2) ++ wsX00 ++ wsX40 ++ wsX20 ++ (vx_atS RX4 75 "java/lang/IllegalArgumentException" ["java/lang/RuntimeException", "java/lang/Exception"]).filter goodWord ++ (vx_atS RX4 55 "java/lang/IllegalStateException" ["java/lang/RuntimeException", "java/lang/Exception"]).filter goodWord ++ (vx_atS RX4 183 "java/lang/IndexOutOfBoundsException" ["java/lang/RuntimeException", "java/lang/Exception"]).filter goodWord)
def wsX4_distribute_r1 : List Cond := [Cond.methodLink RX4 98 yX4_needPrinter, Cond.instanceMethod yX4_needPrinter, Cond.selects RX4 yX4_needPrinter yX4_needPrinter, Cond.initialized RX4, Cond.code yX4_needPrinter cX4_needPrinter 3 (some (.object "TypeFoundry$Printer")), Cond.classLink RX4 179 "java/lang/IndexOutOfBoundsException", Cond.initialized "java/lang/IndexOutOfBoundsException", Cond.fieldLink RX4 18 "TypeFoundry" "printers" "[LTypeFoundry$Printer;", Cond.methodLink RX4 146 yX2_inAll, Cond.instanceMethod yX2_inAll, Cond.selects RX2 yX2_inAll yX2_inAll, Cond.initialized RX2, Cond.code yX2_inAll cX2_inAll 3 (some .int), Cond.fieldLink RX2 9 "TypeFoundry$Sorts" "numbers" "[I", Cond.methodLink RX4 58 yX2_ofSign, Cond.instanceMethod yX2_ofSign, Cond.selects RX2 yX2_ofSign yX2_ofSign, Cond.code yX2_ofSign cX2_ofSign 4 (some .int), Cond.methodLink RX2 15 yX2_at, Cond.instanceMethod yX2_at, Cond.selects RX2 yX2_at yX2_at, Cond.code yX2_at cX2_at 3 (some .int), Cond.methodLink RX4 107 yX2_moveLeastWorn, Cond.instanceMethod yX2_moveLeastWorn]
def wsX4_distribute_r2 : List Cond := [Cond.selects RX2 yX2_moveLeastWorn yX2_moveLeastWorn, Cond.code yX2_moveLeastWorn cX2_moveLeastWorn 8 (some .int), Cond.methodLink RX2 31 yX2_moveAt, Cond.instanceMethod yX2_moveAt, Cond.selects RX2 yX2_moveAt yX2_moveAt, Cond.code yX2_moveAt cX2_moveAt 6 (some .int), Cond.methodLink RX2 41 Lib.Math.min.name, Cond.static Lib.Math.min.name, Cond.initialized "java/lang/Math", Cond.code Lib.Math.min.name Lib.Math.min.code 2 (some .int), Cond.methodLink RX2 35 yX2_change, Cond.instanceMethod yX2_change, Cond.selects RX2 yX2_change yX2_change, Cond.code yX2_change cX2_change 4 none]
def wsX4_distribute : List Cond := .code yX4_distribute cX4_distribute 5 (some .int) :: ((wsX4_distribute_r1 ++ wsX4_distribute_r2) ++ wsX00 ++ wsX40 ++ wsX20 ++ (vx_atS RX4 183 "java/lang/IndexOutOfBoundsException" ["java/lang/RuntimeException", "java/lang/Exception"]).filter goodWord)
def wsX4_pass : List Cond := .code yX4_pass cX4_pass 5 (some .int) :: ([.classLink RX4 71 "java/lang/IllegalArgumentException", .initialized "java/lang/IllegalArgumentException", .fieldLink RX4 173 "TypeFoundry" "day" "I", .fieldLink RX4 18 "TypeFoundry" "printers" "[LTypeFoundry$Printer;", .methodLink RX4 176 yX0_rentOfADay, .instanceMethod yX0_rentOfADay, .selects RX0 yX0_rentOfADay yX0_rentOfADay, .initialized RX0, .code yX0_rentOfADay cX0_rentOfADay 1 (some .int), .fieldLink RX0 12 "TypeFoundry$Printer" "tray" "LTypeFoundry$Sorts;", .fieldLink RX0 18 "TypeFoundry$Printer" "form" "LTypeFoundry$Sorts;", .methodLink RX0 25 yX2_inAll, .instanceMethod yX2_inAll, .selects RX2 yX2_inAll yX2_inAll, .initialized RX2, .code yX2_inAll cX2_inAll 3 (some .int), .fieldLink RX2 9 "TypeFoundry$Sorts" "numbers" "[I"] ++ wsX40 ++ wsX00 ++ wsX20 ++ (vx_atS RX4 75 "java/lang/IllegalArgumentException" ["java/lang/RuntimeException", "java/lang/Exception"]).filter goodWord)
def wsX4_sorts : List Cond := .code yX4_sorts cX4_sorts 5 (some .int) :: ([.classLink RX4 179 "java/lang/IndexOutOfBoundsException", .initialized "java/lang/IndexOutOfBoundsException", .fieldLink RX4 10 "TypeFoundry" "stock" "LTypeFoundry$Sorts;", .methodLink RX4 98 yX4_needPrinter, .instanceMethod yX4_needPrinter, .selects RX4 yX4_needPrinter yX4_needPrinter, .initialized RX4, .code yX4_needPrinter cX4_needPrinter 3 (some (.object "TypeFoundry$Printer")), .fieldLink RX4 18 "TypeFoundry" "printers" "[LTypeFoundry$Printer;", .methodLink RX4 40 yX4_needSign, .static yX4_needSign, .code yX4_needSign cX4_needSign 1 none, .methodLink RX4 184 yX2_at, .instanceMethod yX2_at, .selects RX2 yX2_at yX2_at, .initialized RX2, .code yX2_at cX2_at 3 (some .int), .fieldLink RX2 9 "TypeFoundry$Sorts" "numbers" "[I"] ++ wsX40 ++ wsX00 ++ wsX20 ++ (vx_atS RX4 183 "java/lang/IndexOutOfBoundsException" ["java/lang/RuntimeException", "java/lang/Exception"]).filter goodWord)
def wsX4_printer_r1 : List Cond := [Cond.classLink RX4 179 "java/lang/IndexOutOfBoundsException", Cond.initialized "java/lang/IndexOutOfBoundsException", Cond.methodLink RX4 98 yX4_needPrinter, Cond.instanceMethod yX4_needPrinter, Cond.selects RX4 yX4_needPrinter yX4_needPrinter, Cond.initialized RX4, Cond.code yX4_needPrinter cX4_needPrinter 3 (some (.object "TypeFoundry$Printer")), Cond.fieldLink RX4 18 "TypeFoundry" "printers" "[LTypeFoundry$Printer;", Cond.methodLink RX4 189 yX0_number, Cond.instanceMethod yX0_number, Cond.selects RX0 yX0_number yX0_number, Cond.initialized RX0, Cond.code yX0_number cX0_number 2 (some .int), Cond.fieldLink RX0 21 "TypeFoundry$Printer" "coins" "I", Cond.fieldLink RX0 29 "TypeFoundry$Printer" "owed" "I", Cond.fieldLink RX0 12 "TypeFoundry$Printer" "tray" "LTypeFoundry$Sorts;", Cond.fieldLink RX0 18 "TypeFoundry$Printer" "form" "LTypeFoundry$Sorts;", Cond.fieldLink RX0 35 "TypeFoundry$Printer" "copies" "I", Cond.fieldLink RX0 38 "TypeFoundry$Printer" "words" "I", Cond.methodLink RX0 25 yX2_inAll, Cond.instanceMethod yX2_inAll, Cond.selects RX2 yX2_inAll yX2_inAll, Cond.initialized RX2, Cond.code yX2_inAll cX2_inAll 3 (some .int)]
def wsX4_printer_r2 : List Cond := [Cond.fieldLink RX2 9 "TypeFoundry$Sorts" "numbers" "[I", Cond.methodLink RX0 32 yX2_wearInAll, Cond.instanceMethod yX2_wearInAll, Cond.selects RX2 yX2_wearInAll yX2_wearInAll, Cond.code yX2_wearInAll cX2_wearInAll 3 (some .int)]
def wsX4_printer : List Cond := .code yX4_printer cX4_printer 4 (some .int) :: ((wsX4_printer_r1 ++ wsX4_printer_r2) ++ wsX40 ++ wsX00 ++ wsX20 ++ (vx_atS RX4 183 "java/lang/IndexOutOfBoundsException" ["java/lang/RuntimeException", "java/lang/Exception"]).filter goodWord)
def wsX4_number : List Cond := .code yX4_number cX4_number 2 (some .int) :: ([.fieldLink RX4 173 "TypeFoundry" "day" "I", .fieldLink RX4 22 "TypeFoundry" "metal" "I", .fieldLink RX4 128 "TypeFoundry" "coins" "I", .fieldLink RX4 10 "TypeFoundry" "stock" "LTypeFoundry$Sorts;", .fieldLink RX4 91 "TypeFoundry" "printersThere" "I", .fieldLink RX4 68 "TypeFoundry" "everCast" "I", .fieldLink RX4 168 "TypeFoundry" "everBroken" "I", .fieldLink RX4 84 "TypeFoundry" "everMelted" "I", .methodLink RX4 146 yX2_inAll, .instanceMethod yX2_inAll, .selects RX2 yX2_inAll yX2_inAll, .initialized RX2, .code yX2_inAll cX2_inAll 3 (some .int), .fieldLink RX2 9 "TypeFoundry$Sorts" "numbers" "[I"] ++ wsX40 ++ wsX20)
def wsX4_count : List Cond := .code yX4_count cX4_count 2 (some .int) :: ([.classLink RX4 179 "java/lang/IndexOutOfBoundsException", .initialized "java/lang/IndexOutOfBoundsException", .methodLink RX4 194 yX4_number, .instanceMethod yX4_number, .selects RX4 yX4_number yX4_number, .initialized RX4, .code yX4_number cX4_number 2 (some .int), .fieldLink RX4 173 "TypeFoundry" "day" "I", .fieldLink RX4 22 "TypeFoundry" "metal" "I", .fieldLink RX4 128 "TypeFoundry" "coins" "I", .fieldLink RX4 10 "TypeFoundry" "stock" "LTypeFoundry$Sorts;", .fieldLink RX4 91 "TypeFoundry" "printersThere" "I", .fieldLink RX4 68 "TypeFoundry" "everCast" "I", .fieldLink RX4 168 "TypeFoundry" "everBroken" "I", .fieldLink RX4 84 "TypeFoundry" "everMelted" "I", .methodLink RX4 146 yX2_inAll, .instanceMethod yX2_inAll, .selects RX2 yX2_inAll yX2_inAll, .initialized RX2, .code yX2_inAll cX2_inAll 3 (some .int), .fieldLink RX2 9 "TypeFoundry$Sorts" "numbers" "[I"] ++ wsX40 ++ wsX20 ++ (vx_atS RX4 183 "java/lang/IndexOutOfBoundsException" ["java/lang/RuntimeException", "java/lang/Exception"]).filter goodWord)
def wsX4_takes_r1 : List Cond := [Cond.fieldLink RX4 36 "TypeFoundry" "setting" "LTypeFoundry$Setting;", Cond.methodLink RX4 98 yX4_needPrinter, Cond.instanceMethod yX4_needPrinter, Cond.selects RX4 yX4_needPrinter yX4_needPrinter, Cond.initialized RX4, Cond.code yX4_needPrinter cX4_needPrinter 3 (some (.object "TypeFoundry$Printer")), Cond.classLink RX4 179 "java/lang/IndexOutOfBoundsException", Cond.initialized "java/lang/IndexOutOfBoundsException", Cond.fieldLink RX4 18 "TypeFoundry" "printers" "[LTypeFoundry$Printer;", Cond.methodLink RX4 129 yX4_needWord, Cond.instanceMethod yX4_needWord, Cond.selects RX4 yX4_needWord yX4_needWord, Cond.code yX4_needWord cX4_needWord 2 (some (.object "TypeFoundry$Word")), Cond.classLink RX4 71 "java/lang/IllegalArgumentException", Cond.initialized "java/lang/IllegalArgumentException", Cond.fieldLink RX4 29 "TypeFoundry" "spelled" "LTypeFoundry$Word;", Cond.methodLink RX4 228 yX3_spell, Cond.instanceMethod yX3_spell, Cond.selects RX3 yX3_spell yX3_spell, Cond.initialized RX3, Cond.code yX3_spell cX3_spell 5 (some .boolean), Cond.constant RX3 19 (387420488), Cond.fieldLink RX3 9 "TypeFoundry$Word" "letters" "[I", Cond.fieldLink RX3 15 "TypeFoundry$Word" "firstPlace" "I"]
def wsX4_takes_r2 : List Cond := [Cond.methodLink RX4 133 yX1_fillFrom, Cond.instanceMethod yX1_fillFrom, Cond.selects RX1 yX1_fillFrom yX1_fillFrom, Cond.initialized RX1, Cond.code yX1_fillFrom cX1_fillFrom 3 none, Cond.fieldLink RX1 9 "TypeFoundry$Setting" "left" "[I", Cond.methodLink RX1 18 yX2_ofSign, Cond.instanceMethod yX2_ofSign, Cond.selects RX2 yX2_ofSign yX2_ofSign, Cond.initialized RX2, Cond.code yX2_ofSign cX2_ofSign 4 (some .int), Cond.methodLink RX2 15 yX2_at, Cond.instanceMethod yX2_at, Cond.selects RX2 yX2_at yX2_at, Cond.code yX2_at cX2_at 3 (some .int), Cond.fieldLink RX2 9 "TypeFoundry$Sorts" "numbers" "[I", Cond.methodLink RX4 137 yX1_lay, Cond.instanceMethod yX1_lay, Cond.selects RX1 yX1_lay yX1_lay, Cond.code yX1_lay cX1_lay 5 (some .int), Cond.fieldLink RX1 15 "TypeFoundry$Setting" "taken" "[I", Cond.methodLink RX1 24 yJ7_fill_53178, Cond.static yJ7_fill_53178, Cond.initialized RJ7]
def wsX4_takes_r3 : List Cond := [Cond.code yJ7_fill_53178 cJ7_fill_53178 4 none, Cond.methodLink RX1 30 yX3_firstPlace, Cond.instanceMethod yX3_firstPlace, Cond.selects RX3 yX3_firstPlace yX3_firstPlace, Cond.code yX3_firstPlace cX3_firstPlace 1 (some .int), Cond.methodLink RX1 36 yX1_signFor, Cond.instanceMethod yX1_signFor, Cond.selects RX1 yX1_signFor yX1_signFor, Cond.code yX1_signFor cX1_signFor 4 (some .int), Cond.methodLink RX1 60 yX3_ligatureAt, Cond.instanceMethod yX3_ligatureAt, Cond.selects RX3 yX3_ligatureAt yX3_ligatureAt, Cond.code yX3_ligatureAt cX3_ligatureAt 2 (some .int), Cond.methodLink RX3 20 yX3_letterAt, Cond.instanceMethod yX3_letterAt, Cond.selects RX3 yX3_letterAt yX3_letterAt, Cond.code yX3_letterAt cX3_letterAt 2 (some .int), Cond.methodLink RX1 63 yX3_letterAt, Cond.static yX4_isLigature, Cond.code yX4_isLigature cX4_isLigature 1 (some .boolean)]
def wsX4_takes : List Cond := .code yX4_takes cX4_takes 5 (some .int) :: ((wsX4_takes_r1 ++ (wsX4_takes_r2 ++ wsX4_takes_r3)) ++ wsX40 ++ wsX00 ++ wsX30 ++ wsX10 ++ wsX20 ++ (vx_atS RX4 183 "java/lang/IndexOutOfBoundsException" ["java/lang/RuntimeException", "java/lang/Exception"]).filter goodWord ++ (vx_atS RX4 75 "java/lang/IllegalArgumentException" ["java/lang/RuntimeException", "java/lang/Exception"]).filter goodWord)
def wsX4_lacks_r1 : List Cond := [Cond.methodLink RX4 98 yX4_needPrinter, Cond.instanceMethod yX4_needPrinter, Cond.selects RX4 yX4_needPrinter yX4_needPrinter, Cond.initialized RX4, Cond.code yX4_needPrinter cX4_needPrinter 3 (some (.object "TypeFoundry$Printer")), Cond.classLink RX4 179 "java/lang/IndexOutOfBoundsException", Cond.initialized "java/lang/IndexOutOfBoundsException", Cond.fieldLink RX4 18 "TypeFoundry" "printers" "[LTypeFoundry$Printer;", Cond.methodLink RX4 129 yX4_needWord, Cond.instanceMethod yX4_needWord, Cond.selects RX4 yX4_needWord yX4_needWord, Cond.code yX4_needWord cX4_needWord 2 (some (.object "TypeFoundry$Word")), Cond.classLink RX4 71 "java/lang/IllegalArgumentException", Cond.initialized "java/lang/IllegalArgumentException", Cond.fieldLink RX4 29 "TypeFoundry" "spelled" "LTypeFoundry$Word;", Cond.methodLink RX4 228 yX3_spell, Cond.instanceMethod yX3_spell, Cond.selects RX3 yX3_spell yX3_spell, Cond.initialized RX3, Cond.code yX3_spell cX3_spell 5 (some .boolean), Cond.constant RX3 19 (387420488), Cond.fieldLink RX3 9 "TypeFoundry$Word" "letters" "[I", Cond.fieldLink RX3 15 "TypeFoundry$Word" "firstPlace" "I", Cond.methodLink RX4 195 yX3_howOften]
def wsX4_lacks_r2 : List Cond := [Cond.instanceMethod yX3_howOften, Cond.selects RX3 yX3_howOften yX3_howOften, Cond.code yX3_howOften cX3_howOften 4 (some .int), Cond.methodLink RX3 20 yX3_letterAt, Cond.instanceMethod yX3_letterAt, Cond.selects RX3 yX3_letterAt yX3_letterAt, Cond.code yX3_letterAt cX3_letterAt 2 (some .int), Cond.methodLink RX4 58 yX2_ofSign, Cond.instanceMethod yX2_ofSign, Cond.selects RX2 yX2_ofSign yX2_ofSign, Cond.initialized RX2, Cond.code yX2_ofSign cX2_ofSign 4 (some .int), Cond.methodLink RX2 15 yX2_at, Cond.instanceMethod yX2_at, Cond.selects RX2 yX2_at yX2_at, Cond.code yX2_at cX2_at 3 (some .int), Cond.fieldLink RX2 9 "TypeFoundry$Sorts" "numbers" "[I"]
def wsX4_lacks : List Cond := .code yX4_lacks cX4_lacks 9 (some .int) :: ((wsX4_lacks_r1 ++ wsX4_lacks_r2) ++ wsX00 ++ wsX40 ++ wsX30 ++ wsX20 ++ (vx_atS RX4 183 "java/lang/IndexOutOfBoundsException" ["java/lang/RuntimeException", "java/lang/Exception"]).filter goodWord ++ (vx_atS RX4 75 "java/lang/IllegalArgumentException" ["java/lang/RuntimeException", "java/lang/Exception"]).filter goodWord)
def wsX4_bears : List Cond := .code yX4_bears cX4_bears 4 (some .int) :: ([.methodLink RX4 98 yX4_needPrinter, .instanceMethod yX4_needPrinter, .selects RX4 yX4_needPrinter yX4_needPrinter, .initialized RX4, .code yX4_needPrinter cX4_needPrinter 3 (some (.object "TypeFoundry$Printer")), .classLink RX4 179 "java/lang/IndexOutOfBoundsException", .initialized "java/lang/IndexOutOfBoundsException", .fieldLink RX4 18 "TypeFoundry" "printers" "[LTypeFoundry$Printer;", .methodLink RX4 198 yX2_greatestWear, .instanceMethod yX2_greatestWear, .selects RX2 yX2_greatestWear yX2_greatestWear, .initialized RX2, .code yX2_greatestWear cX2_greatestWear 3 (some .int), .fieldLink RX2 9 "TypeFoundry$Sorts" "numbers" "[I", .methodLink RX2 19 Lib.Math.max.name, .static Lib.Math.max.name, .initialized "java/lang/Math", .code Lib.Math.max.name Lib.Math.max.code 2 (some .int)] ++ wsX00 ++ wsX40 ++ wsX20 ++ (vx_atS RX4 183 "java/lang/IndexOutOfBoundsException" ["java/lang/RuntimeException", "java/lang/Exception"]).filter goodWord)
def wsX4_saves_r1 : List Cond := [Cond.fieldLink RX4 36 "TypeFoundry" "setting" "LTypeFoundry$Setting;", Cond.methodLink RX4 201 yX1_fillWithoutEnd, Cond.instanceMethod yX1_fillWithoutEnd, Cond.selects RX1 yX1_fillWithoutEnd yX1_fillWithoutEnd, Cond.initialized RX1, Cond.code yX1_fillWithoutEnd cX1_fillWithoutEnd 1 none, Cond.fieldLink RX1 9 "TypeFoundry$Setting" "left" "[I", Cond.methodLink RX1 24 yJ7_fill_53178, Cond.static yJ7_fill_53178, Cond.initialized RJ7, Cond.code yJ7_fill_53178 cJ7_fill_53178 4 none, Cond.methodLink RX4 129 yX4_needWord, Cond.instanceMethod yX4_needWord, Cond.selects RX4 yX4_needWord yX4_needWord, Cond.initialized RX4, Cond.code yX4_needWord cX4_needWord 2 (some (.object "TypeFoundry$Word")), Cond.classLink RX4 71 "java/lang/IllegalArgumentException", Cond.initialized "java/lang/IllegalArgumentException", Cond.fieldLink RX4 29 "TypeFoundry" "spelled" "LTypeFoundry$Word;", Cond.methodLink RX4 228 yX3_spell, Cond.instanceMethod yX3_spell, Cond.selects RX3 yX3_spell yX3_spell, Cond.initialized RX3, Cond.code yX3_spell cX3_spell 5 (some .boolean)]
def wsX4_saves_r2 : List Cond := [Cond.constant RX3 19 (387420488), Cond.fieldLink RX3 9 "TypeFoundry$Word" "letters" "[I", Cond.fieldLink RX3 15 "TypeFoundry$Word" "firstPlace" "I", Cond.methodLink RX4 137 yX1_lay, Cond.instanceMethod yX1_lay, Cond.selects RX1 yX1_lay yX1_lay, Cond.code yX1_lay cX1_lay 5 (some .int), Cond.fieldLink RX1 15 "TypeFoundry$Setting" "taken" "[I", Cond.methodLink RX1 30 yX3_firstPlace, Cond.instanceMethod yX3_firstPlace, Cond.selects RX3 yX3_firstPlace yX3_firstPlace, Cond.code yX3_firstPlace cX3_firstPlace 1 (some .int), Cond.methodLink RX1 36 yX1_signFor, Cond.instanceMethod yX1_signFor, Cond.selects RX1 yX1_signFor yX1_signFor, Cond.code yX1_signFor cX1_signFor 4 (some .int), Cond.methodLink RX1 60 yX3_ligatureAt, Cond.instanceMethod yX3_ligatureAt, Cond.selects RX3 yX3_ligatureAt yX3_ligatureAt, Cond.code yX3_ligatureAt cX3_ligatureAt 2 (some .int), Cond.methodLink RX3 20 yX3_letterAt, Cond.instanceMethod yX3_letterAt, Cond.selects RX3 yX3_letterAt yX3_letterAt, Cond.code yX3_letterAt cX3_letterAt 2 (some .int)]
def wsX4_saves_r3 : List Cond := [Cond.methodLink RX1 63 yX3_letterAt, Cond.static yX4_isLigature, Cond.code yX4_isLigature cX4_isLigature 1 (some .boolean), Cond.methodLink RX4 204 yX1_takenOfPlenty, Cond.instanceMethod yX1_takenOfPlenty, Cond.selects RX1 yX1_takenOfPlenty yX1_takenOfPlenty, Cond.code yX1_takenOfPlenty cX1_takenOfPlenty 2 (some .int)]
def wsX4_saves : List Cond := .code yX4_saves cX4_saves 7 (some .int) :: ((wsX4_saves_r1 ++ (wsX4_saves_r2 ++ wsX4_saves_r3)) ++ wsX40 ++ wsX10 ++ wsX30 ++ (vx_atS RX4 75 "java/lang/IllegalArgumentException" ["java/lang/RuntimeException", "java/lang/Exception"]).filter goodWord)
def wsX4_times_r1 : List Cond := [Cond.fieldLink RX4 36 "TypeFoundry" "setting" "LTypeFoundry$Setting;", Cond.methodLink RX4 98 yX4_needPrinter, Cond.instanceMethod yX4_needPrinter, Cond.selects RX4 yX4_needPrinter yX4_needPrinter, Cond.initialized RX4, Cond.code yX4_needPrinter cX4_needPrinter 3 (some (.object "TypeFoundry$Printer")), Cond.classLink RX4 179 "java/lang/IndexOutOfBoundsException", Cond.initialized "java/lang/IndexOutOfBoundsException", Cond.fieldLink RX4 18 "TypeFoundry" "printers" "[LTypeFoundry$Printer;", Cond.methodLink RX4 129 yX4_needWord, Cond.instanceMethod yX4_needWord, Cond.selects RX4 yX4_needWord yX4_needWord, Cond.code yX4_needWord cX4_needWord 2 (some (.object "TypeFoundry$Word")), Cond.classLink RX4 71 "java/lang/IllegalArgumentException", Cond.initialized "java/lang/IllegalArgumentException", Cond.fieldLink RX4 29 "TypeFoundry" "spelled" "LTypeFoundry$Word;", Cond.methodLink RX4 228 yX3_spell, Cond.instanceMethod yX3_spell, Cond.selects RX3 yX3_spell yX3_spell, Cond.initialized RX3, Cond.code yX3_spell cX3_spell 5 (some .boolean), Cond.constant RX3 19 (387420488), Cond.fieldLink RX3 9 "TypeFoundry$Word" "letters" "[I", Cond.fieldLink RX3 15 "TypeFoundry$Word" "firstPlace" "I"]
def wsX4_times_r2 : List Cond := [Cond.methodLink RX4 133 yX1_fillFrom, Cond.instanceMethod yX1_fillFrom, Cond.selects RX1 yX1_fillFrom yX1_fillFrom, Cond.initialized RX1, Cond.code yX1_fillFrom cX1_fillFrom 3 none, Cond.fieldLink RX1 9 "TypeFoundry$Setting" "left" "[I", Cond.methodLink RX1 18 yX2_ofSign, Cond.instanceMethod yX2_ofSign, Cond.selects RX2 yX2_ofSign yX2_ofSign, Cond.initialized RX2, Cond.code yX2_ofSign cX2_ofSign 4 (some .int), Cond.methodLink RX2 15 yX2_at, Cond.instanceMethod yX2_at, Cond.selects RX2 yX2_at yX2_at, Cond.code yX2_at cX2_at 3 (some .int), Cond.fieldLink RX2 9 "TypeFoundry$Sorts" "numbers" "[I", Cond.methodLink RX4 207 yX1_layTillOneLacks, Cond.instanceMethod yX1_layTillOneLacks, Cond.selects RX1 yX1_layTillOneLacks yX1_layTillOneLacks, Cond.code yX1_layTillOneLacks cX1_layTillOneLacks 4 (some .int), Cond.methodLink RX1 44 yX1_lay, Cond.instanceMethod yX1_lay, Cond.selects RX1 yX1_lay yX1_lay, Cond.code yX1_lay cX1_lay 5 (some .int)]
def wsX4_times_r3 : List Cond := [Cond.fieldLink RX1 15 "TypeFoundry$Setting" "taken" "[I", Cond.methodLink RX1 24 yJ7_fill_53178, Cond.static yJ7_fill_53178, Cond.initialized RJ7, Cond.code yJ7_fill_53178 cJ7_fill_53178 4 none, Cond.methodLink RX1 30 yX3_firstPlace, Cond.instanceMethod yX3_firstPlace, Cond.selects RX3 yX3_firstPlace yX3_firstPlace, Cond.code yX3_firstPlace cX3_firstPlace 1 (some .int), Cond.methodLink RX1 36 yX1_signFor, Cond.instanceMethod yX1_signFor, Cond.selects RX1 yX1_signFor yX1_signFor, Cond.code yX1_signFor cX1_signFor 4 (some .int), Cond.methodLink RX1 60 yX3_ligatureAt, Cond.instanceMethod yX3_ligatureAt, Cond.selects RX3 yX3_ligatureAt yX3_ligatureAt, Cond.code yX3_ligatureAt cX3_ligatureAt 2 (some .int), Cond.methodLink RX3 20 yX3_letterAt, Cond.instanceMethod yX3_letterAt, Cond.selects RX3 yX3_letterAt yX3_letterAt, Cond.code yX3_letterAt cX3_letterAt 2 (some .int), Cond.methodLink RX1 63 yX3_letterAt, Cond.static yX4_isLigature, Cond.code yX4_isLigature cX4_isLigature 1 (some .boolean)]
def wsX4_times_r4 : List Cond := [Cond.methodLink RX1 48 yX1_layTheSameAgain, Cond.instanceMethod yX1_layTheSameAgain, Cond.selects RX1 yX1_layTheSameAgain yX1_layTheSameAgain, Cond.code yX1_layTheSameAgain cX1_layTheSameAgain 3 (some .int), Cond.constant RX1 53 (2147483647), Cond.methodLink RX1 54 Lib.Math.min.name, Cond.static Lib.Math.min.name, Cond.initialized "java/lang/Math", Cond.code Lib.Math.min.name Lib.Math.min.code 2 (some .int)]
def wsX4_times : List Cond := .code yX4_times cX4_times 5 (some .int) :: ((wsX4_times_r1 ++ (wsX4_times_r2 ++ (wsX4_times_r3 ++ wsX4_times_r4))) ++ wsX40 ++ wsX00 ++ wsX30 ++ wsX10 ++ wsX20 ++ (vx_atS RX4 183 "java/lang/IndexOutOfBoundsException" ["java/lang/RuntimeException", "java/lang/Exception"]).filter goodWord ++ (vx_atS RX4 75 "java/lang/IllegalArgumentException" ["java/lang/RuntimeException", "java/lang/Exception"]).filter goodWord)
def wsX4_mean : List Cond := .code yX4_mean cX4_mean 2 (some .double) :: ([.fieldLink RX4 10 "TypeFoundry" "stock" "LTypeFoundry$Sorts;", .methodLink RX4 146 yX2_inAll, .instanceMethod yX2_inAll, .selects RX2 yX2_inAll yX2_inAll, .initialized RX2, .code yX2_inAll cX2_inAll 3 (some .int), .fieldLink RX2 9 "TypeFoundry$Sorts" "numbers" "[I", .methodLink RX4 210 yX2_wearInAll, .instanceMethod yX2_wearInAll, .selects RX2 yX2_wearInAll yX2_wearInAll, .code yX2_wearInAll cX2_wearInAll 3 (some .int)] ++ wsX40 ++ wsX20)
def wsX4_digest_r1 : List Cond := [Cond.constantLong RX4 213 (751), Cond.constantLong RX4 215 (31), Cond.fieldLink RX4 10 "TypeFoundry" "stock" "LTypeFoundry$Sorts;", Cond.fieldLink RX4 18 "TypeFoundry" "printers" "[LTypeFoundry$Printer;", Cond.methodLink RX4 194 yX4_number, Cond.instanceMethod yX4_number, Cond.selects RX4 yX4_number yX4_number, Cond.initialized RX4, Cond.code yX4_number cX4_number 2 (some .int), Cond.fieldLink RX4 173 "TypeFoundry" "day" "I", Cond.fieldLink RX4 22 "TypeFoundry" "metal" "I", Cond.fieldLink RX4 128 "TypeFoundry" "coins" "I", Cond.fieldLink RX4 91 "TypeFoundry" "printersThere" "I", Cond.fieldLink RX4 68 "TypeFoundry" "everCast" "I", Cond.fieldLink RX4 168 "TypeFoundry" "everBroken" "I", Cond.fieldLink RX4 84 "TypeFoundry" "everMelted" "I", Cond.methodLink RX4 146 yX2_inAll, Cond.instanceMethod yX2_inAll, Cond.selects RX2 yX2_inAll yX2_inAll, Cond.initialized RX2, Cond.code yX2_inAll cX2_inAll 3 (some .int), Cond.fieldLink RX2 9 "TypeFoundry$Sorts" "numbers" "[I", Cond.methodLink RX4 217 yX2_digestOnto, Cond.instanceMethod yX2_digestOnto]
def wsX4_digest_r2 : List Cond := [Cond.selects RX2 yX2_digestOnto yX2_digestOnto, Cond.code yX2_digestOnto cX2_digestOnto 6 (some .long), Cond.constantLong RX2 39 (31), Cond.methodLink RX4 221 yX0_digestOnto, Cond.instanceMethod yX0_digestOnto, Cond.selects RX0 yX0_digestOnto yX0_digestOnto, Cond.initialized RX0, Cond.code yX0_digestOnto cX0_digestOnto 6 (some .long), Cond.constantLong RX0 41 (31), Cond.methodLink RX0 43 yX0_number, Cond.instanceMethod yX0_number, Cond.selects RX0 yX0_number yX0_number, Cond.code yX0_number cX0_number 2 (some .int), Cond.fieldLink RX0 21 "TypeFoundry$Printer" "coins" "I", Cond.fieldLink RX0 29 "TypeFoundry$Printer" "owed" "I", Cond.fieldLink RX0 12 "TypeFoundry$Printer" "tray" "LTypeFoundry$Sorts;", Cond.fieldLink RX0 18 "TypeFoundry$Printer" "form" "LTypeFoundry$Sorts;", Cond.fieldLink RX0 35 "TypeFoundry$Printer" "copies" "I", Cond.fieldLink RX0 38 "TypeFoundry$Printer" "words" "I", Cond.methodLink RX0 25 yX2_inAll, Cond.methodLink RX0 32 yX2_wearInAll, Cond.instanceMethod yX2_wearInAll, Cond.selects RX2 yX2_wearInAll yX2_wearInAll, Cond.code yX2_wearInAll cX2_wearInAll 3 (some .int)]
def wsX4_digest : List Cond := .code yX4_digest cX4_digest 5 (some .long) :: ((wsX4_digest_r1 ++ wsX4_digest_r2) ++ wsX40 ++ wsX00 ++ wsX20)
def wsX5_init : List Cond := .code yX5_init cX5_init 1 none :: ([.methodLink RX5 1 objectInit, .instanceMethod objectInit, .code objectInit ⟨#[0xb1]⟩ 1 none, .fieldLink RX5 7 "TypeFoundryModel" "metal" "I", .arrayClass .int, .fieldLink RX5 13 "TypeFoundryModel" "store" "[I", .fieldLink RX5 17 "TypeFoundryModel" "own" "[I", .fieldLink RX5 20 "TypeFoundryModel" "owed" "[I", .fieldLink RX5 23 "TypeFoundryModel" "copies" "[I", .fieldLink RX5 26 "TypeFoundryModel" "words" "[I", .fieldLink RX5 29 "TypeFoundryModel" "letter" "[I", .fieldLink RX5 32 "TypeFoundryModel" "takes" "[I", .fieldLink RX5 35 "TypeFoundryModel" "left" "[I"] ++ wsX50)
def wsX5_thrown : List Cond := .code yX5_thrown cX5_thrown 1 (some .int) :: ([.fieldLink RX5 38 "TypeFoundryModel" "thrown" "I"] ++ wsX50)
def wsX5_no : List Cond := .code yX5_no cX5_no 2 (some .int) :: ([.fieldLink RX5 38 "TypeFoundryModel" "thrown" "I"] ++ wsX50)
def wsX5_isIn : List Cond := .code yX5_isIn cX5_isIn 3 (some .boolean) :: ([])
def wsX5_isPrinter : List Cond := .code yX5_isPrinter cX5_isPrinter 2 (some .boolean) :: ([.fieldLink RX5 41 "TypeFoundryModel" "printers" "I", .methodLink RX5 44 yX5_isIn, .static yX5_isIn, .initialized RX5, .code yX5_isIn cX5_isIn 3 (some .boolean)] ++ wsX50)
def wsX5_isSign : List Cond := .code yX5_isSign cX5_isSign 1 (some .boolean) :: ([.methodLink RX5 44 yX5_isIn, .static yX5_isIn, .initialized RX5, .code yX5_isIn cX5_isIn 3 (some .boolean)])
def wsX5_caseOf : List Cond := .code yX5_caseOf cX5_caseOf 1 (some .int) :: ([])
def wsX5_formOf : List Cond := .code yX5_formOf cX5_formOf 1 (some .int) :: ([])
def wsX5_many : List Cond := .code yX5_many cX5_many 5 (some .int) :: ([.fieldLink RX5 13 "TypeFoundryModel" "store" "[I"] ++ wsX50)
def wsX5_all : List Cond := .code yX5_all cX5_all 4 (some .int) :: ([.fieldLink RX5 13 "TypeFoundryModel" "store" "[I"] ++ wsX50)
def wsX5_worn : List Cond := .code yX5_worn cX5_worn 4 (some .int) :: ([.fieldLink RX5 13 "TypeFoundryModel" "store" "[I"] ++ wsX50)
def wsX5_move : List Cond := .code yX5_move cX5_move 11 (some .int) :: ([.fieldLink RX5 13 "TypeFoundryModel" "store" "[I", .methodLink RX5 48 Lib.Math.min.name, .static Lib.Math.min.name, .initialized "java/lang/Math", .code Lib.Math.min.name Lib.Math.min.code 2 (some .int)] ++ wsX50)
def wsX5_price : List Cond := .code yX5_price cX5_price 1 (some .int) :: ([])
def wsX5_cast : List Cond := .code yX5_cast cX5_cast 3 (some .int) :: ([.fieldLink RX5 38 "TypeFoundryModel" "thrown" "I", .fieldLink RX5 7 "TypeFoundryModel" "metal" "I", .fieldLink RX5 13 "TypeFoundryModel" "store" "[I", .fieldLink RX5 68 "TypeFoundryModel" "made" "I", .methodLink RX5 54 yX5_isSign, .static yX5_isSign, .initialized RX5, .code yX5_isSign cX5_isSign 1 (some .boolean), .methodLink RX5 44 yX5_isIn, .static yX5_isIn, .code yX5_isIn cX5_isIn 3 (some .boolean), .methodLink RX5 58 yX5_no, .instanceMethod yX5_no, .selects RX5 yX5_no yX5_no, .code yX5_no cX5_no 2 (some .int), .methodLink RX5 62 yX5_price, .static yX5_price, .code yX5_price cX5_price 1 (some .int), .methodLink RX5 65 yX5_many, .instanceMethod yX5_many, .selects RX5 yX5_many yX5_many, .code yX5_many cX5_many 5 (some .int)] ++ wsX50)
def wsX5_melt : List Cond := .code yX5_melt cX5_melt 5 (some .int) :: ([.fieldLink RX5 38 "TypeFoundryModel" "thrown" "I", .fieldLink RX5 13 "TypeFoundryModel" "store" "[I", .fieldLink RX5 7 "TypeFoundryModel" "metal" "I", .fieldLink RX5 71 "TypeFoundryModel" "melted" "I", .methodLink RX5 44 yX5_isIn, .static yX5_isIn, .initialized RX5, .code yX5_isIn cX5_isIn 3 (some .boolean), .methodLink RX5 58 yX5_no, .instanceMethod yX5_no, .selects RX5 yX5_no yX5_no, .code yX5_no cX5_no 2 (some .int), .methodLink RX5 62 yX5_price, .static yX5_price, .code yX5_price cX5_price 1 (some .int)] ++ wsX50)
def wsX5_buy : List Cond := .code yX5_buy cX5_buy 2 (some .int) :: ([.fieldLink RX5 38 "TypeFoundryModel" "thrown" "I", .fieldLink RX5 7 "TypeFoundryModel" "metal" "I", .methodLink RX5 44 yX5_isIn, .static yX5_isIn, .initialized RX5, .code yX5_isIn cX5_isIn 3 (some .boolean), .methodLink RX5 58 yX5_no, .instanceMethod yX5_no, .selects RX5 yX5_no yX5_no, .code yX5_no cX5_no 2 (some .int)] ++ wsX50)
def wsX5_come : List Cond := .code yX5_come cX5_come 2 (some .int) :: ([.fieldLink RX5 38 "TypeFoundryModel" "thrown" "I", .fieldLink RX5 41 "TypeFoundryModel" "printers" "I", .fieldLink RX5 17 "TypeFoundryModel" "own" "[I", .methodLink RX5 44 yX5_isIn, .static yX5_isIn, .initialized RX5, .code yX5_isIn cX5_isIn 3 (some .boolean), .methodLink RX5 58 yX5_no, .instanceMethod yX5_no, .selects RX5 yX5_no yX5_no, .code yX5_no cX5_no 2 (some .int)] ++ wsX50)
def wsX5_rent_r1 : List Cond := [Cond.fieldLink RX5 38 "TypeFoundryModel" "thrown" "I", Cond.methodLink RX5 74 yX5_isPrinter, Cond.instanceMethod yX5_isPrinter, Cond.selects RX5 yX5_isPrinter yX5_isPrinter, Cond.initialized RX5, Cond.code yX5_isPrinter cX5_isPrinter 2 (some .boolean), Cond.fieldLink RX5 41 "TypeFoundryModel" "printers" "I", Cond.methodLink RX5 44 yX5_isIn, Cond.static yX5_isIn, Cond.code yX5_isIn cX5_isIn 3 (some .boolean), Cond.methodLink RX5 54 yX5_isSign, Cond.static yX5_isSign, Cond.code yX5_isSign cX5_isSign 1 (some .boolean), Cond.methodLink RX5 58 yX5_no, Cond.instanceMethod yX5_no, Cond.selects RX5 yX5_no yX5_no, Cond.code yX5_no cX5_no 2 (some .int), Cond.methodLink RX5 65 yX5_many, Cond.instanceMethod yX5_many, Cond.selects RX5 yX5_many yX5_many, Cond.code yX5_many cX5_many 5 (some .int), Cond.fieldLink RX5 13 "TypeFoundryModel" "store" "[I", Cond.methodLink RX5 77 yX5_caseOf, Cond.static yX5_caseOf]
def wsX5_rent_r2 : List Cond := [Cond.code yX5_caseOf cX5_caseOf 1 (some .int), Cond.methodLink RX5 80 yX5_move, Cond.instanceMethod yX5_move, Cond.selects RX5 yX5_move yX5_move, Cond.code yX5_move cX5_move 11 (some .int), Cond.methodLink RX5 48 Lib.Math.min.name, Cond.static Lib.Math.min.name, Cond.initialized "java/lang/Math", Cond.code Lib.Math.min.name Lib.Math.min.code 2 (some .int)]
def wsX5_rent : List Cond := .code yX5_rent cX5_rent 4 (some .int) :: ((wsX5_rent_r1 ++ wsX5_rent_r2) ++ wsX50)
def wsX5_giveBack_r1 : List Cond := [Cond.fieldLink RX5 38 "TypeFoundryModel" "thrown" "I", Cond.methodLink RX5 74 yX5_isPrinter, Cond.instanceMethod yX5_isPrinter, Cond.selects RX5 yX5_isPrinter yX5_isPrinter, Cond.initialized RX5, Cond.code yX5_isPrinter cX5_isPrinter 2 (some .boolean), Cond.fieldLink RX5 41 "TypeFoundryModel" "printers" "I", Cond.methodLink RX5 44 yX5_isIn, Cond.static yX5_isIn, Cond.code yX5_isIn cX5_isIn 3 (some .boolean), Cond.methodLink RX5 54 yX5_isSign, Cond.static yX5_isSign, Cond.code yX5_isSign cX5_isSign 1 (some .boolean), Cond.methodLink RX5 58 yX5_no, Cond.instanceMethod yX5_no, Cond.selects RX5 yX5_no yX5_no, Cond.code yX5_no cX5_no 2 (some .int), Cond.methodLink RX5 77 yX5_caseOf, Cond.static yX5_caseOf, Cond.code yX5_caseOf cX5_caseOf 1 (some .int), Cond.methodLink RX5 65 yX5_many, Cond.instanceMethod yX5_many, Cond.selects RX5 yX5_many yX5_many, Cond.code yX5_many cX5_many 5 (some .int)]
def wsX5_giveBack_r2 : List Cond := [Cond.fieldLink RX5 13 "TypeFoundryModel" "store" "[I", Cond.methodLink RX5 80 yX5_move, Cond.instanceMethod yX5_move, Cond.selects RX5 yX5_move yX5_move, Cond.code yX5_move cX5_move 11 (some .int), Cond.methodLink RX5 48 Lib.Math.min.name, Cond.static Lib.Math.min.name, Cond.initialized "java/lang/Math", Cond.code Lib.Math.min.name Lib.Math.min.code 2 (some .int)]
def wsX5_giveBack : List Cond := .code yX5_giveBack cX5_giveBack 4 (some .int) :: ((wsX5_giveBack_r1 ++ wsX5_giveBack_r2) ++ wsX50)
def wsX5_pay : List Cond := .code yX5_pay cX5_pay 3 (some .int) :: ([.fieldLink RX5 38 "TypeFoundryModel" "thrown" "I", .fieldLink RX5 17 "TypeFoundryModel" "own" "[I", .fieldLink RX5 20 "TypeFoundryModel" "owed" "[I", .methodLink RX5 48 Lib.Math.min.name, .static Lib.Math.min.name, .initialized "java/lang/Math", .code Lib.Math.min.name Lib.Math.min.code 2 (some .int), .fieldLink RX5 84 "TypeFoundryModel" "coins" "I", .methodLink RX5 74 yX5_isPrinter, .instanceMethod yX5_isPrinter, .selects RX5 yX5_isPrinter yX5_isPrinter, .initialized RX5, .code yX5_isPrinter cX5_isPrinter 2 (some .boolean), .fieldLink RX5 41 "TypeFoundryModel" "printers" "I", .methodLink RX5 44 yX5_isIn, .static yX5_isIn, .code yX5_isIn cX5_isIn 3 (some .boolean), .methodLink RX5 58 yX5_no, .instanceMethod yX5_no, .selects RX5 yX5_no yX5_no, .code yX5_no cX5_no 2 (some .int)] ++ wsX50)
def wsX5_isWord : List Cond := .code yX5_isWord cX5_isWord 5 (some .boolean) :: ([.fieldLink RX5 87 "TypeFoundryModel" "letters" "I", .fieldLink RX5 29 "TypeFoundryModel" "letter" "[I"] ++ wsX50)
def wsX5_ligature : List Cond := .code yX5_ligature cX5_ligature 3 (some .int) :: ([.fieldLink RX5 29 "TypeFoundryModel" "letter" "[I", .fieldLink RX5 87 "TypeFoundryModel" "letters" "I"] ++ wsX50)
def wsX5_compose : List Cond := .code yX5_compose cX5_compose 4 (some .int) :: ([.fieldLink RX5 32 "TypeFoundryModel" "takes" "[I", .fieldLink RX5 87 "TypeFoundryModel" "letters" "I", .fieldLink RX5 35 "TypeFoundryModel" "left" "[I", .fieldLink RX5 29 "TypeFoundryModel" "letter" "[I", .methodLink RX5 90 yJ7_fill_53178, .static yJ7_fill_53178, .initialized RJ7, .code yJ7_fill_53178 cJ7_fill_53178 4 none, .methodLink RX5 96 yX5_ligature, .instanceMethod yX5_ligature, .selects RX5 yX5_ligature yX5_ligature, .initialized RX5, .code yX5_ligature cX5_ligature 3 (some .int)] ++ wsX50)
def wsX5_look : List Cond := .code yX5_look cX5_look 3 none :: ([.fieldLink RX5 35 "TypeFoundryModel" "left" "[I", .methodLink RX5 77 yX5_caseOf, .static yX5_caseOf, .initialized RX5, .code yX5_caseOf cX5_caseOf 1 (some .int), .methodLink RX5 65 yX5_many, .instanceMethod yX5_many, .selects RX5 yX5_many yX5_many, .code yX5_many cX5_many 5 (some .int), .fieldLink RX5 13 "TypeFoundryModel" "store" "[I"] ++ wsX50)
def wsX5_set_r1 : List Cond := [Cond.fieldLink RX5 38 "TypeFoundryModel" "thrown" "I", Cond.fieldLink RX5 32 "TypeFoundryModel" "takes" "[I", Cond.fieldLink RX5 26 "TypeFoundryModel" "words" "[I", Cond.methodLink RX5 74 yX5_isPrinter, Cond.instanceMethod yX5_isPrinter, Cond.selects RX5 yX5_isPrinter yX5_isPrinter, Cond.initialized RX5, Cond.code yX5_isPrinter cX5_isPrinter 2 (some .boolean), Cond.fieldLink RX5 41 "TypeFoundryModel" "printers" "I", Cond.methodLink RX5 44 yX5_isIn, Cond.static yX5_isIn, Cond.code yX5_isIn cX5_isIn 3 (some .boolean), Cond.methodLink RX5 58 yX5_no, Cond.instanceMethod yX5_no, Cond.selects RX5 yX5_no yX5_no, Cond.code yX5_no cX5_no 2 (some .int), Cond.methodLink RX5 99 yX5_isWord, Cond.instanceMethod yX5_isWord, Cond.selects RX5 yX5_isWord yX5_isWord, Cond.code yX5_isWord cX5_isWord 5 (some .boolean), Cond.fieldLink RX5 87 "TypeFoundryModel" "letters" "I", Cond.fieldLink RX5 29 "TypeFoundryModel" "letter" "[I", Cond.methodLink RX5 102 yX5_look, Cond.instanceMethod yX5_look]
def wsX5_set_r2 : List Cond := [Cond.selects RX5 yX5_look yX5_look, Cond.code yX5_look cX5_look 3 none, Cond.fieldLink RX5 35 "TypeFoundryModel" "left" "[I", Cond.methodLink RX5 77 yX5_caseOf, Cond.static yX5_caseOf, Cond.code yX5_caseOf cX5_caseOf 1 (some .int), Cond.methodLink RX5 65 yX5_many, Cond.instanceMethod yX5_many, Cond.selects RX5 yX5_many yX5_many, Cond.code yX5_many cX5_many 5 (some .int), Cond.fieldLink RX5 13 "TypeFoundryModel" "store" "[I", Cond.methodLink RX5 106 yX5_compose, Cond.instanceMethod yX5_compose, Cond.selects RX5 yX5_compose yX5_compose, Cond.code yX5_compose cX5_compose 4 (some .int), Cond.methodLink RX5 90 yJ7_fill_53178, Cond.static yJ7_fill_53178, Cond.initialized RJ7, Cond.code yJ7_fill_53178 cJ7_fill_53178 4 none, Cond.methodLink RX5 96 yX5_ligature, Cond.instanceMethod yX5_ligature, Cond.selects RX5 yX5_ligature yX5_ligature, Cond.code yX5_ligature cX5_ligature 3 (some .int), Cond.methodLink RX5 110 yX5_formOf]
def wsX5_set_r3 : List Cond := [Cond.static yX5_formOf, Cond.code yX5_formOf cX5_formOf 1 (some .int), Cond.methodLink RX5 113 yX5_all, Cond.instanceMethod yX5_all, Cond.selects RX5 yX5_all yX5_all, Cond.code yX5_all cX5_all 4 (some .int), Cond.methodLink RX5 80 yX5_move, Cond.instanceMethod yX5_move, Cond.selects RX5 yX5_move yX5_move, Cond.code yX5_move cX5_move 11 (some .int), Cond.methodLink RX5 48 Lib.Math.min.name, Cond.static Lib.Math.min.name, Cond.initialized "java/lang/Math", Cond.code Lib.Math.min.name Lib.Math.min.code 2 (some .int)]
def wsX5_set : List Cond := .code yX5_set cX5_set 5 (some .int) :: ((wsX5_set_r1 ++ (wsX5_set_r2 ++ wsX5_set_r3)) ++ wsX50)
def wsX5_print : List Cond := .code yX5_print cX5_print 8 (some .int) :: ([.fieldLink RX5 38 "TypeFoundryModel" "thrown" "I", .fieldLink RX5 13 "TypeFoundryModel" "store" "[I", .fieldLink RX5 23 "TypeFoundryModel" "copies" "[I", .fieldLink RX5 116 "TypeFoundryModel" "broken" "I", .methodLink RX5 74 yX5_isPrinter, .instanceMethod yX5_isPrinter, .selects RX5 yX5_isPrinter yX5_isPrinter, .initialized RX5, .code yX5_isPrinter cX5_isPrinter 2 (some .boolean), .fieldLink RX5 41 "TypeFoundryModel" "printers" "I", .methodLink RX5 44 yX5_isIn, .static yX5_isIn, .code yX5_isIn cX5_isIn 3 (some .boolean), .methodLink RX5 58 yX5_no, .instanceMethod yX5_no, .selects RX5 yX5_no yX5_no, .code yX5_no cX5_no 2 (some .int), .methodLink RX5 110 yX5_formOf, .static yX5_formOf, .code yX5_formOf cX5_formOf 1 (some .int), .methodLink RX5 113 yX5_all, .instanceMethod yX5_all, .selects RX5 yX5_all yX5_all, .code yX5_all cX5_all 4 (some .int)] ++ wsX50)
def wsX5_distribute_r1 : List Cond := [Cond.fieldLink RX5 38 "TypeFoundryModel" "thrown" "I", Cond.fieldLink RX5 13 "TypeFoundryModel" "store" "[I", Cond.fieldLink RX5 26 "TypeFoundryModel" "words" "[I", Cond.methodLink RX5 74 yX5_isPrinter, Cond.instanceMethod yX5_isPrinter, Cond.selects RX5 yX5_isPrinter yX5_isPrinter, Cond.initialized RX5, Cond.code yX5_isPrinter cX5_isPrinter 2 (some .boolean), Cond.fieldLink RX5 41 "TypeFoundryModel" "printers" "I", Cond.methodLink RX5 44 yX5_isIn, Cond.static yX5_isIn, Cond.code yX5_isIn cX5_isIn 3 (some .boolean), Cond.methodLink RX5 58 yX5_no, Cond.instanceMethod yX5_no, Cond.selects RX5 yX5_no yX5_no, Cond.code yX5_no cX5_no 2 (some .int), Cond.methodLink RX5 110 yX5_formOf, Cond.static yX5_formOf, Cond.code yX5_formOf cX5_formOf 1 (some .int), Cond.methodLink RX5 113 yX5_all, Cond.instanceMethod yX5_all, Cond.selects RX5 yX5_all yX5_all, Cond.code yX5_all cX5_all 4 (some .int), Cond.methodLink RX5 77 yX5_caseOf]
def wsX5_distribute_r2 : List Cond := [Cond.static yX5_caseOf, Cond.code yX5_caseOf cX5_caseOf 1 (some .int)]
def wsX5_distribute : List Cond := .code yX5_distribute cX5_distribute 4 (some .int) :: ((wsX5_distribute_r1 ++ wsX5_distribute_r2) ++ wsX50)
def wsX5_pass : List Cond := .code yX5_pass cX5_pass 4 (some .int) :: ([.fieldLink RX5 38 "TypeFoundryModel" "thrown" "I", .fieldLink RX5 41 "TypeFoundryModel" "printers" "I", .fieldLink RX5 20 "TypeFoundryModel" "owed" "[I", .fieldLink RX5 119 "TypeFoundryModel" "day" "I", .methodLink RX5 44 yX5_isIn, .static yX5_isIn, .initialized RX5, .code yX5_isIn cX5_isIn 3 (some .boolean), .methodLink RX5 58 yX5_no, .instanceMethod yX5_no, .selects RX5 yX5_no yX5_no, .code yX5_no cX5_no 2 (some .int), .methodLink RX5 77 yX5_caseOf, .static yX5_caseOf, .code yX5_caseOf cX5_caseOf 1 (some .int), .methodLink RX5 113 yX5_all, .instanceMethod yX5_all, .selects RX5 yX5_all yX5_all, .code yX5_all cX5_all 4 (some .int), .fieldLink RX5 13 "TypeFoundryModel" "store" "[I", .methodLink RX5 110 yX5_formOf, .static yX5_formOf, .code yX5_formOf cX5_formOf 1 (some .int)] ++ wsX50)
def wsX5_sorts : List Cond := .code yX5_sorts cX5_sorts 5 (some .int) :: ([.fieldLink RX5 38 "TypeFoundryModel" "thrown" "I", .fieldLink RX5 13 "TypeFoundryModel" "store" "[I", .methodLink RX5 74 yX5_isPrinter, .instanceMethod yX5_isPrinter, .selects RX5 yX5_isPrinter yX5_isPrinter, .initialized RX5, .code yX5_isPrinter cX5_isPrinter 2 (some .boolean), .fieldLink RX5 41 "TypeFoundryModel" "printers" "I", .methodLink RX5 44 yX5_isIn, .static yX5_isIn, .code yX5_isIn cX5_isIn 3 (some .boolean), .methodLink RX5 54 yX5_isSign, .static yX5_isSign, .code yX5_isSign cX5_isSign 1 (some .boolean), .methodLink RX5 77 yX5_caseOf, .static yX5_caseOf, .code yX5_caseOf cX5_caseOf 1 (some .int), .methodLink RX5 58 yX5_no, .instanceMethod yX5_no, .selects RX5 yX5_no yX5_no, .code yX5_no cX5_no 2 (some .int)] ++ wsX50)
def wsX5_told : List Cond := .code yX5_told cX5_told 4 (some .int) :: ([.arrayClass .int, .fieldLink RX5 17 "TypeFoundryModel" "own" "[I", .fieldLink RX5 20 "TypeFoundryModel" "owed" "[I", .fieldLink RX5 23 "TypeFoundryModel" "copies" "[I", .fieldLink RX5 26 "TypeFoundryModel" "words" "[I", .methodLink RX5 77 yX5_caseOf, .static yX5_caseOf, .initialized RX5, .code yX5_caseOf cX5_caseOf 1 (some .int), .methodLink RX5 113 yX5_all, .instanceMethod yX5_all, .selects RX5 yX5_all yX5_all, .code yX5_all cX5_all 4 (some .int), .fieldLink RX5 13 "TypeFoundryModel" "store" "[I", .methodLink RX5 110 yX5_formOf, .static yX5_formOf, .code yX5_formOf cX5_formOf 1 (some .int), .methodLink RX5 122 yX5_worn, .instanceMethod yX5_worn, .selects RX5 yX5_worn yX5_worn, .code yX5_worn cX5_worn 4 (some .int)] ++ wsX50)
def wsX5_printer_r1 : List Cond := [Cond.fieldLink RX5 38 "TypeFoundryModel" "thrown" "I", Cond.methodLink RX5 74 yX5_isPrinter, Cond.instanceMethod yX5_isPrinter, Cond.selects RX5 yX5_isPrinter yX5_isPrinter, Cond.initialized RX5, Cond.code yX5_isPrinter cX5_isPrinter 2 (some .boolean), Cond.fieldLink RX5 41 "TypeFoundryModel" "printers" "I", Cond.methodLink RX5 44 yX5_isIn, Cond.static yX5_isIn, Cond.code yX5_isIn cX5_isIn 3 (some .boolean), Cond.methodLink RX5 125 yX5_told, Cond.instanceMethod yX5_told, Cond.selects RX5 yX5_told yX5_told, Cond.code yX5_told cX5_told 4 (some .int), Cond.arrayClass .int, Cond.fieldLink RX5 17 "TypeFoundryModel" "own" "[I", Cond.fieldLink RX5 20 "TypeFoundryModel" "owed" "[I", Cond.fieldLink RX5 23 "TypeFoundryModel" "copies" "[I", Cond.fieldLink RX5 26 "TypeFoundryModel" "words" "[I", Cond.methodLink RX5 77 yX5_caseOf, Cond.static yX5_caseOf, Cond.code yX5_caseOf cX5_caseOf 1 (some .int), Cond.methodLink RX5 113 yX5_all, Cond.instanceMethod yX5_all]
def wsX5_printer_r2 : List Cond := [Cond.selects RX5 yX5_all yX5_all, Cond.code yX5_all cX5_all 4 (some .int), Cond.fieldLink RX5 13 "TypeFoundryModel" "store" "[I", Cond.methodLink RX5 110 yX5_formOf, Cond.static yX5_formOf, Cond.code yX5_formOf cX5_formOf 1 (some .int), Cond.methodLink RX5 122 yX5_worn, Cond.instanceMethod yX5_worn, Cond.selects RX5 yX5_worn yX5_worn, Cond.code yX5_worn cX5_worn 4 (some .int), Cond.methodLink RX5 58 yX5_no, Cond.instanceMethod yX5_no, Cond.selects RX5 yX5_no yX5_no, Cond.code yX5_no cX5_no 2 (some .int)]
def wsX5_printer : List Cond := .code yX5_printer cX5_printer 3 (some .int) :: ((wsX5_printer_r1 ++ wsX5_printer_r2) ++ wsX50)
def wsX5_counted : List Cond := .code yX5_counted cX5_counted 3 (some .int) :: ([.arrayClass .int, .fieldLink RX5 119 "TypeFoundryModel" "day" "I", .fieldLink RX5 7 "TypeFoundryModel" "metal" "I", .fieldLink RX5 84 "TypeFoundryModel" "coins" "I", .fieldLink RX5 41 "TypeFoundryModel" "printers" "I", .fieldLink RX5 68 "TypeFoundryModel" "made" "I", .fieldLink RX5 116 "TypeFoundryModel" "broken" "I", .fieldLink RX5 71 "TypeFoundryModel" "melted" "I", .methodLink RX5 113 yX5_all, .instanceMethod yX5_all, .selects RX5 yX5_all yX5_all, .initialized RX5, .code yX5_all cX5_all 4 (some .int), .fieldLink RX5 13 "TypeFoundryModel" "store" "[I"] ++ wsX50)
def wsX5_count_r1 : List Cond := [Cond.fieldLink RX5 38 "TypeFoundryModel" "thrown" "I", Cond.methodLink RX5 44 yX5_isIn, Cond.static yX5_isIn, Cond.initialized RX5, Cond.code yX5_isIn cX5_isIn 3 (some .boolean), Cond.methodLink RX5 128 yX5_counted, Cond.instanceMethod yX5_counted, Cond.selects RX5 yX5_counted yX5_counted, Cond.code yX5_counted cX5_counted 3 (some .int), Cond.arrayClass .int, Cond.fieldLink RX5 119 "TypeFoundryModel" "day" "I", Cond.fieldLink RX5 7 "TypeFoundryModel" "metal" "I", Cond.fieldLink RX5 84 "TypeFoundryModel" "coins" "I", Cond.fieldLink RX5 41 "TypeFoundryModel" "printers" "I", Cond.fieldLink RX5 68 "TypeFoundryModel" "made" "I", Cond.fieldLink RX5 116 "TypeFoundryModel" "broken" "I", Cond.fieldLink RX5 71 "TypeFoundryModel" "melted" "I", Cond.methodLink RX5 113 yX5_all, Cond.instanceMethod yX5_all, Cond.selects RX5 yX5_all yX5_all, Cond.code yX5_all cX5_all 4 (some .int), Cond.fieldLink RX5 13 "TypeFoundryModel" "store" "[I", Cond.methodLink RX5 58 yX5_no, Cond.instanceMethod yX5_no]
def wsX5_count_r2 : List Cond := [Cond.selects RX5 yX5_no yX5_no, Cond.code yX5_no cX5_no 2 (some .int)]
def wsX5_count : List Cond := .code yX5_count cX5_count 2 (some .int) :: ((wsX5_count_r1 ++ wsX5_count_r2) ++ wsX50)
def wsX5_takes_r1 : List Cond := [Cond.fieldLink RX5 38 "TypeFoundryModel" "thrown" "I", Cond.methodLink RX5 74 yX5_isPrinter, Cond.instanceMethod yX5_isPrinter, Cond.selects RX5 yX5_isPrinter yX5_isPrinter, Cond.initialized RX5, Cond.code yX5_isPrinter cX5_isPrinter 2 (some .boolean), Cond.fieldLink RX5 41 "TypeFoundryModel" "printers" "I", Cond.methodLink RX5 44 yX5_isIn, Cond.static yX5_isIn, Cond.code yX5_isIn cX5_isIn 3 (some .boolean), Cond.methodLink RX5 58 yX5_no, Cond.instanceMethod yX5_no, Cond.selects RX5 yX5_no yX5_no, Cond.code yX5_no cX5_no 2 (some .int), Cond.methodLink RX5 99 yX5_isWord, Cond.instanceMethod yX5_isWord, Cond.selects RX5 yX5_isWord yX5_isWord, Cond.code yX5_isWord cX5_isWord 5 (some .boolean), Cond.fieldLink RX5 87 "TypeFoundryModel" "letters" "I", Cond.fieldLink RX5 29 "TypeFoundryModel" "letter" "[I", Cond.methodLink RX5 102 yX5_look, Cond.instanceMethod yX5_look, Cond.selects RX5 yX5_look yX5_look, Cond.code yX5_look cX5_look 3 none]
def wsX5_takes_r2 : List Cond := [Cond.fieldLink RX5 35 "TypeFoundryModel" "left" "[I", Cond.methodLink RX5 77 yX5_caseOf, Cond.static yX5_caseOf, Cond.code yX5_caseOf cX5_caseOf 1 (some .int), Cond.methodLink RX5 65 yX5_many, Cond.instanceMethod yX5_many, Cond.selects RX5 yX5_many yX5_many, Cond.code yX5_many cX5_many 5 (some .int), Cond.fieldLink RX5 13 "TypeFoundryModel" "store" "[I", Cond.methodLink RX5 106 yX5_compose, Cond.instanceMethod yX5_compose, Cond.selects RX5 yX5_compose yX5_compose, Cond.code yX5_compose cX5_compose 4 (some .int), Cond.fieldLink RX5 32 "TypeFoundryModel" "takes" "[I", Cond.methodLink RX5 90 yJ7_fill_53178, Cond.static yJ7_fill_53178, Cond.initialized RJ7, Cond.code yJ7_fill_53178 cJ7_fill_53178 4 none, Cond.methodLink RX5 96 yX5_ligature, Cond.instanceMethod yX5_ligature, Cond.selects RX5 yX5_ligature yX5_ligature, Cond.code yX5_ligature cX5_ligature 3 (some .int)]
def wsX5_takes : List Cond := .code yX5_takes cX5_takes 3 (some .int) :: ((wsX5_takes_r1 ++ wsX5_takes_r2) ++ wsX50)
def wsX5_lacks_r1 : List Cond := [Cond.fieldLink RX5 38 "TypeFoundryModel" "thrown" "I", Cond.fieldLink RX5 87 "TypeFoundryModel" "letters" "I", Cond.fieldLink RX5 29 "TypeFoundryModel" "letter" "[I", Cond.methodLink RX5 74 yX5_isPrinter, Cond.instanceMethod yX5_isPrinter, Cond.selects RX5 yX5_isPrinter yX5_isPrinter, Cond.initialized RX5, Cond.code yX5_isPrinter cX5_isPrinter 2 (some .boolean), Cond.fieldLink RX5 41 "TypeFoundryModel" "printers" "I", Cond.methodLink RX5 44 yX5_isIn, Cond.static yX5_isIn, Cond.code yX5_isIn cX5_isIn 3 (some .boolean), Cond.methodLink RX5 58 yX5_no, Cond.instanceMethod yX5_no, Cond.selects RX5 yX5_no yX5_no, Cond.code yX5_no cX5_no 2 (some .int), Cond.methodLink RX5 99 yX5_isWord, Cond.instanceMethod yX5_isWord, Cond.selects RX5 yX5_isWord yX5_isWord, Cond.code yX5_isWord cX5_isWord 5 (some .boolean), Cond.methodLink RX5 77 yX5_caseOf, Cond.static yX5_caseOf, Cond.code yX5_caseOf cX5_caseOf 1 (some .int), Cond.methodLink RX5 65 yX5_many]
def wsX5_lacks_r2 : List Cond := [Cond.instanceMethod yX5_many, Cond.selects RX5 yX5_many yX5_many, Cond.code yX5_many cX5_many 5 (some .int), Cond.fieldLink RX5 13 "TypeFoundryModel" "store" "[I"]
def wsX5_lacks : List Cond := .code yX5_lacks cX5_lacks 8 (some .int) :: ((wsX5_lacks_r1 ++ wsX5_lacks_r2) ++ wsX50)
def wsX5_bears : List Cond := .code yX5_bears cX5_bears 4 (some .int) :: ([.fieldLink RX5 38 "TypeFoundryModel" "thrown" "I", .fieldLink RX5 13 "TypeFoundryModel" "store" "[I", .methodLink RX5 131 Lib.Math.max.name, .static Lib.Math.max.name, .initialized "java/lang/Math", .code Lib.Math.max.name Lib.Math.max.code 2 (some .int), .methodLink RX5 74 yX5_isPrinter, .instanceMethod yX5_isPrinter, .selects RX5 yX5_isPrinter yX5_isPrinter, .initialized RX5, .code yX5_isPrinter cX5_isPrinter 2 (some .boolean), .fieldLink RX5 41 "TypeFoundryModel" "printers" "I", .methodLink RX5 44 yX5_isIn, .static yX5_isIn, .code yX5_isIn cX5_isIn 3 (some .boolean), .methodLink RX5 58 yX5_no, .instanceMethod yX5_no, .selects RX5 yX5_no yX5_no, .code yX5_no cX5_no 2 (some .int), .methodLink RX5 110 yX5_formOf, .static yX5_formOf, .code yX5_formOf cX5_formOf 1 (some .int)] ++ wsX50)
def wsX5_saves_r1 : List Cond := [Cond.fieldLink RX5 38 "TypeFoundryModel" "thrown" "I", Cond.arrayClass .int, Cond.fieldLink RX5 35 "TypeFoundryModel" "left" "[I", Cond.fieldLink RX5 32 "TypeFoundryModel" "takes" "[I", Cond.methodLink RX5 99 yX5_isWord, Cond.instanceMethod yX5_isWord, Cond.selects RX5 yX5_isWord yX5_isWord, Cond.initialized RX5, Cond.code yX5_isWord cX5_isWord 5 (some .boolean), Cond.fieldLink RX5 87 "TypeFoundryModel" "letters" "I", Cond.fieldLink RX5 29 "TypeFoundryModel" "letter" "[I", Cond.methodLink RX5 58 yX5_no, Cond.instanceMethod yX5_no, Cond.selects RX5 yX5_no yX5_no, Cond.code yX5_no cX5_no 2 (some .int), Cond.methodLink RX5 90 yJ7_fill_53178, Cond.static yJ7_fill_53178, Cond.initialized RJ7, Cond.code yJ7_fill_53178 cJ7_fill_53178 4 none, Cond.methodLink RX5 106 yX5_compose, Cond.instanceMethod yX5_compose, Cond.selects RX5 yX5_compose yX5_compose, Cond.code yX5_compose cX5_compose 4 (some .int), Cond.methodLink RX5 96 yX5_ligature]
def wsX5_saves_r2 : List Cond := [Cond.instanceMethod yX5_ligature, Cond.selects RX5 yX5_ligature yX5_ligature, Cond.code yX5_ligature cX5_ligature 3 (some .int)]
def wsX5_saves : List Cond := .code yX5_saves cX5_saves 6 (some .int) :: ((wsX5_saves_r1 ++ wsX5_saves_r2) ++ wsX50)
def wsX5_times_r1 : List Cond := [Cond.fieldLink RX5 38 "TypeFoundryModel" "thrown" "I", Cond.methodLink RX5 74 yX5_isPrinter, Cond.instanceMethod yX5_isPrinter, Cond.selects RX5 yX5_isPrinter yX5_isPrinter, Cond.initialized RX5, Cond.code yX5_isPrinter cX5_isPrinter 2 (some .boolean), Cond.fieldLink RX5 41 "TypeFoundryModel" "printers" "I", Cond.methodLink RX5 44 yX5_isIn, Cond.static yX5_isIn, Cond.code yX5_isIn cX5_isIn 3 (some .boolean), Cond.methodLink RX5 58 yX5_no, Cond.instanceMethod yX5_no, Cond.selects RX5 yX5_no yX5_no, Cond.code yX5_no cX5_no 2 (some .int), Cond.methodLink RX5 99 yX5_isWord, Cond.instanceMethod yX5_isWord, Cond.selects RX5 yX5_isWord yX5_isWord, Cond.code yX5_isWord cX5_isWord 5 (some .boolean), Cond.fieldLink RX5 87 "TypeFoundryModel" "letters" "I", Cond.fieldLink RX5 29 "TypeFoundryModel" "letter" "[I", Cond.methodLink RX5 102 yX5_look, Cond.instanceMethod yX5_look, Cond.selects RX5 yX5_look yX5_look, Cond.code yX5_look cX5_look 3 none]
def wsX5_times_r2 : List Cond := [Cond.fieldLink RX5 35 "TypeFoundryModel" "left" "[I", Cond.methodLink RX5 77 yX5_caseOf, Cond.static yX5_caseOf, Cond.code yX5_caseOf cX5_caseOf 1 (some .int), Cond.methodLink RX5 65 yX5_many, Cond.instanceMethod yX5_many, Cond.selects RX5 yX5_many yX5_many, Cond.code yX5_many cX5_many 5 (some .int), Cond.fieldLink RX5 13 "TypeFoundryModel" "store" "[I", Cond.methodLink RX5 106 yX5_compose, Cond.instanceMethod yX5_compose, Cond.selects RX5 yX5_compose yX5_compose, Cond.code yX5_compose cX5_compose 4 (some .int), Cond.fieldLink RX5 32 "TypeFoundryModel" "takes" "[I", Cond.methodLink RX5 90 yJ7_fill_53178, Cond.static yJ7_fill_53178, Cond.initialized RJ7, Cond.code yJ7_fill_53178 cJ7_fill_53178 4 none, Cond.methodLink RX5 96 yX5_ligature, Cond.instanceMethod yX5_ligature, Cond.selects RX5 yX5_ligature yX5_ligature, Cond.code yX5_ligature cX5_ligature 3 (some .int)]
def wsX5_times : List Cond := .code yX5_times cX5_times 4 (some .int) :: ((wsX5_times_r1 ++ wsX5_times_r2) ++ wsX50)
def wsX5_mean : List Cond := .code yX5_mean cX5_mean 2 (some .double) :: ([.fieldLink RX5 38 "TypeFoundryModel" "thrown" "I", .methodLink RX5 113 yX5_all, .instanceMethod yX5_all, .selects RX5 yX5_all yX5_all, .initialized RX5, .code yX5_all cX5_all 4 (some .int), .fieldLink RX5 13 "TypeFoundryModel" "store" "[I", .methodLink RX5 122 yX5_worn, .instanceMethod yX5_worn, .selects RX5 yX5_worn yX5_worn, .code yX5_worn cX5_worn 4 (some .int)] ++ wsX50)
def wsX5_digest_r1 : List Cond := [Cond.fieldLink RX5 38 "TypeFoundryModel" "thrown" "I", Cond.constantLong RX5 134 (751), Cond.constantLong RX5 136 (31), Cond.fieldLink RX5 41 "TypeFoundryModel" "printers" "I", Cond.fieldLink RX5 13 "TypeFoundryModel" "store" "[I", Cond.methodLink RX5 128 yX5_counted, Cond.instanceMethod yX5_counted, Cond.selects RX5 yX5_counted yX5_counted, Cond.initialized RX5, Cond.code yX5_counted cX5_counted 3 (some .int), Cond.arrayClass .int, Cond.fieldLink RX5 119 "TypeFoundryModel" "day" "I", Cond.fieldLink RX5 7 "TypeFoundryModel" "metal" "I", Cond.fieldLink RX5 84 "TypeFoundryModel" "coins" "I", Cond.fieldLink RX5 68 "TypeFoundryModel" "made" "I", Cond.fieldLink RX5 116 "TypeFoundryModel" "broken" "I", Cond.fieldLink RX5 71 "TypeFoundryModel" "melted" "I", Cond.methodLink RX5 113 yX5_all, Cond.instanceMethod yX5_all, Cond.selects RX5 yX5_all yX5_all, Cond.code yX5_all cX5_all 4 (some .int), Cond.methodLink RX5 125 yX5_told, Cond.instanceMethod yX5_told, Cond.selects RX5 yX5_told yX5_told]
def wsX5_digest_r2 : List Cond := [Cond.code yX5_told cX5_told 4 (some .int), Cond.fieldLink RX5 17 "TypeFoundryModel" "own" "[I", Cond.fieldLink RX5 20 "TypeFoundryModel" "owed" "[I", Cond.fieldLink RX5 23 "TypeFoundryModel" "copies" "[I", Cond.fieldLink RX5 26 "TypeFoundryModel" "words" "[I", Cond.methodLink RX5 77 yX5_caseOf, Cond.static yX5_caseOf, Cond.code yX5_caseOf cX5_caseOf 1 (some .int), Cond.methodLink RX5 110 yX5_formOf, Cond.static yX5_formOf, Cond.code yX5_formOf cX5_formOf 1 (some .int), Cond.methodLink RX5 122 yX5_worn, Cond.instanceMethod yX5_worn, Cond.selects RX5 yX5_worn yX5_worn, Cond.code yX5_worn cX5_worn 4 (some .int)]
def wsX5_digest : List Cond := .code yX5_digest cX5_digest 5 (some .long) :: ((wsX5_digest_r1 ++ wsX5_digest_r2) ++ wsX50)
def wsJ9_max_7cf53 : List Cond := .code yJ9_max_7cf53 cJ9_max_7cf53 2 (some .int) :: ([])
def wsJ9_min_7cf53 : List Cond := .code yJ9_min_7cf53 cJ9_min_7cf53 2 (some .int) :: ([])
def wsL_cast_r1 : List Cond := [Cond.classLink RL 13 "java/lang/IndexOutOfBoundsException", Cond.classLink RL 15 "java/lang/IllegalArgumentException", Cond.classLink RL 17 "java/lang/IllegalStateException", Cond.methodLink RL 7 yX4_cast, Cond.instanceMethod yX4_cast, Cond.selects RX4 yX4_cast yX4_cast, Cond.initialized RX4, Cond.code yX4_cast cX4_cast 4 (some .int), Cond.classLink RX4 51 "java/lang/IllegalStateException", Cond.initialized "java/lang/IllegalStateException", Cond.fieldLink RX4 22 "TypeFoundry" "metal" "I", Cond.fieldLink RX4 10 "TypeFoundry" "stock" "LTypeFoundry$Sorts;", Cond.fieldLink RX4 68 "TypeFoundry" "everCast" "I", Cond.methodLink RX4 40 yX4_needSign, Cond.static yX4_needSign, Cond.code yX4_needSign cX4_needSign 1 none, Cond.classLink RX4 179 "java/lang/IndexOutOfBoundsException", Cond.initialized "java/lang/IndexOutOfBoundsException", Cond.methodLink RX4 44 yX4_needMany, Cond.static yX4_needMany, Cond.code yX4_needMany cX4_needMany 1 none, Cond.classLink RX4 71 "java/lang/IllegalArgumentException", Cond.initialized "java/lang/IllegalArgumentException", Cond.methodLink RX4 47 yX4_isLigature]
def wsL_cast_r2 : List Cond := [Cond.static yX4_isLigature, Cond.code yX4_isLigature cX4_isLigature 1 (some .boolean), Cond.methodLink RX4 58 yX2_ofSign, Cond.instanceMethod yX2_ofSign, Cond.selects RX2 yX2_ofSign yX2_ofSign, Cond.initialized RX2, Cond.code yX2_ofSign cX2_ofSign 4 (some .int), Cond.methodLink RX2 15 yX2_at, Cond.instanceMethod yX2_at, Cond.selects RX2 yX2_at yX2_at, Cond.code yX2_at cX2_at 3 (some .int), Cond.fieldLink RX2 9 "TypeFoundry$Sorts" "numbers" "[I", Cond.methodLink RX4 64 yX2_change, Cond.instanceMethod yX2_change, Cond.selects RX2 yX2_change yX2_change, Cond.code yX2_change cX2_change 4 none]
def wsL_cast : List Cond := .codeWith yL_cast cL_cast 5 (some .int) [(0, 10, 13, 13), (0, 10, 17, 15), (0, 10, 21, 17)] :: ((wsL_cast_r1 ++ wsL_cast_r2) ++ wsX40 ++ wsX20 ++ (vx_atS RX4 55 "java/lang/IllegalStateException" ["java/lang/RuntimeException", "java/lang/Exception"]).filter goodWord ++ (vx_atS RX4 183 "java/lang/IndexOutOfBoundsException" ["java/lang/RuntimeException", "java/lang/Exception"]).filter goodWord ++ (vx_atS RX4 75 "java/lang/IllegalArgumentException" ["java/lang/RuntimeException", "java/lang/Exception"]).filter goodWord)
def wsL_melt_r1 : List Cond := [Cond.classLink RL 15 "java/lang/IllegalArgumentException", Cond.classLink RL 17 "java/lang/IllegalStateException", Cond.methodLink RL 19 yX4_melt, Cond.instanceMethod yX4_melt, Cond.selects RX4 yX4_melt yX4_melt, Cond.initialized RX4, Cond.code yX4_melt cX4_melt 4 (some .int), Cond.classLink RX4 71 "java/lang/IllegalArgumentException", Cond.initialized "java/lang/IllegalArgumentException", Cond.classLink RX4 51 "java/lang/IllegalStateException", Cond.initialized "java/lang/IllegalStateException", Cond.fieldLink RX4 10 "TypeFoundry" "stock" "LTypeFoundry$Sorts;", Cond.fieldLink RX4 22 "TypeFoundry" "metal" "I", Cond.fieldLink RX4 84 "TypeFoundry" "everMelted" "I", Cond.methodLink RX4 76 yX2_metalFrom, Cond.instanceMethod yX2_metalFrom, Cond.selects RX2 yX2_metalFrom yX2_metalFrom, Cond.initialized RX2, Cond.code yX2_metalFrom cX2_metalFrom 5 (some .int), Cond.methodLink RX2 15 yX2_at, Cond.instanceMethod yX2_at, Cond.selects RX2 yX2_at yX2_at, Cond.code yX2_at cX2_at 3 (some .int), Cond.fieldLink RX2 9 "TypeFoundry$Sorts" "numbers" "[I"]
def wsL_melt_r2 : List Cond := [Cond.static yX4_isLigature, Cond.code yX4_isLigature cX4_isLigature 1 (some .boolean), Cond.methodLink RX4 81 yX2_dropFrom, Cond.instanceMethod yX2_dropFrom, Cond.selects RX2 yX2_dropFrom yX2_dropFrom, Cond.code yX2_dropFrom cX2_dropFrom 5 (some .int), Cond.methodLink RX2 28 yX2_empty, Cond.instanceMethod yX2_empty, Cond.selects RX2 yX2_empty yX2_empty, Cond.code yX2_empty cX2_empty 4 (some .int), Cond.methodLink RX2 35 yX2_change, Cond.instanceMethod yX2_change, Cond.selects RX2 yX2_change yX2_change, Cond.code yX2_change cX2_change 4 none]
def wsL_melt : List Cond := .codeWith yL_melt cL_melt 4 (some .int) [(0, 9, 12, 15), (0, 9, 15, 17)] :: ((wsL_melt_r1 ++ wsL_melt_r2) ++ wsX40 ++ wsX20 ++ (vx_atS RX4 75 "java/lang/IllegalArgumentException" ["java/lang/RuntimeException", "java/lang/Exception"]).filter goodWord ++ (vx_atS RX4 55 "java/lang/IllegalStateException" ["java/lang/RuntimeException", "java/lang/Exception"]).filter goodWord)
def wsL_buy : List Cond := .codeWith yL_buy cL_buy 4 (some .int) [(0, 9, 12, 15), (0, 9, 15, 17)] :: ([.classLink RL 15 "java/lang/IllegalArgumentException", .classLink RL 17 "java/lang/IllegalStateException", .methodLink RL 23 yX4_buy, .instanceMethod yX4_buy, .selects RX4 yX4_buy yX4_buy, .initialized RX4, .code yX4_buy cX4_buy 2 (some .int), .classLink RX4 71 "java/lang/IllegalArgumentException", .initialized "java/lang/IllegalArgumentException", .classLink RX4 51 "java/lang/IllegalStateException", .initialized "java/lang/IllegalStateException", .fieldLink RX4 22 "TypeFoundry" "metal" "I"] ++ wsX40 ++ (vx_atS RX4 75 "java/lang/IllegalArgumentException" ["java/lang/RuntimeException", "java/lang/Exception"]).filter goodWord ++ (vx_atS RX4 55 "java/lang/IllegalStateException" ["java/lang/RuntimeException", "java/lang/Exception"]).filter goodWord)
def wsL_come_r1 : List Cond := [Cond.classLink RL 15 "java/lang/IllegalArgumentException", Cond.classLink RL 17 "java/lang/IllegalStateException", Cond.methodLink RL 26 yX4_come, Cond.instanceMethod yX4_come, Cond.selects RX4 yX4_come yX4_come, Cond.initialized RX4, Cond.code yX4_come cX4_come 3 (some .int), Cond.classLink RX4 71 "java/lang/IllegalArgumentException", Cond.initialized "java/lang/IllegalArgumentException", Cond.classLink RX4 51 "java/lang/IllegalStateException", Cond.initialized "java/lang/IllegalStateException", Cond.fieldLink RX4 91 "TypeFoundry" "printersThere" "I", Cond.fieldLink RX4 18 "TypeFoundry" "printers" "[LTypeFoundry$Printer;", Cond.classLink RX4 16 RX0, Cond.instantiable RX0 6, Cond.initialized RX0, Cond.methodLink RX4 96 yX0_init, Cond.instanceMethod yX0_init, Cond.code yX0_init cX0_init 2 none, Cond.methodLink RX0 3 objectInit, Cond.instanceMethod objectInit, Cond.code objectInit ⟨#[0xb1]⟩ 1 none, Cond.classLink RX0 9 RX2, Cond.instantiable RX2 1]
def wsL_come_r2 : List Cond := [Cond.initialized RX2, Cond.fieldLink RX0 12 "TypeFoundry$Printer" "tray" "LTypeFoundry$Sorts;", Cond.fieldLink RX0 18 "TypeFoundry$Printer" "form" "LTypeFoundry$Sorts;", Cond.fieldLink RX0 21 "TypeFoundry$Printer" "coins" "I", Cond.instanceMethod yX2_init, Cond.code yX2_init cX2_init 1 none, Cond.methodLink RX2 3 objectInit, Cond.arrayClass .int, Cond.fieldLink RX2 9 "TypeFoundry$Sorts" "numbers" "[I"]
def wsL_come : List Cond := .codeWith yL_come cL_come 4 (some .int) [(0, 9, 12, 15), (0, 9, 15, 17)] :: ((wsL_come_r1 ++ wsL_come_r2) ++ wsX40 ++ wsX00 ++ wsX20 ++ (vx_atS RX4 75 "java/lang/IllegalArgumentException" ["java/lang/RuntimeException", "java/lang/Exception"]).filter goodWord ++ (vx_atS RX4 55 "java/lang/IllegalStateException" ["java/lang/RuntimeException", "java/lang/Exception"]).filter goodWord)
def wsL_rent_r1 : List Cond := [Cond.classLink RL 13 "java/lang/IndexOutOfBoundsException", Cond.classLink RL 15 "java/lang/IllegalArgumentException", Cond.classLink RL 17 "java/lang/IllegalStateException", Cond.methodLink RL 29 yX4_rent, Cond.instanceMethod yX4_rent, Cond.selects RX4 yX4_rent yX4_rent, Cond.initialized RX4, Cond.code yX4_rent cX4_rent 5 (some .int), Cond.classLink RX4 51 "java/lang/IllegalStateException", Cond.initialized "java/lang/IllegalStateException", Cond.fieldLink RX4 10 "TypeFoundry" "stock" "LTypeFoundry$Sorts;", Cond.methodLink RX4 98 yX4_needPrinter, Cond.instanceMethod yX4_needPrinter, Cond.selects RX4 yX4_needPrinter yX4_needPrinter, Cond.code yX4_needPrinter cX4_needPrinter 3 (some (.object "TypeFoundry$Printer")), Cond.classLink RX4 179 "java/lang/IndexOutOfBoundsException", Cond.initialized "java/lang/IndexOutOfBoundsException", Cond.fieldLink RX4 18 "TypeFoundry" "printers" "[LTypeFoundry$Printer;", Cond.methodLink RX4 40 yX4_needSign, Cond.static yX4_needSign, Cond.code yX4_needSign cX4_needSign 1 none, Cond.methodLink RX4 44 yX4_needMany, Cond.static yX4_needMany, Cond.code yX4_needMany cX4_needMany 1 none]
def wsL_rent_r2 : List Cond := [Cond.classLink RX4 71 "java/lang/IllegalArgumentException", Cond.initialized "java/lang/IllegalArgumentException", Cond.methodLink RX4 58 yX2_ofSign, Cond.instanceMethod yX2_ofSign, Cond.selects RX2 yX2_ofSign yX2_ofSign, Cond.initialized RX2, Cond.code yX2_ofSign cX2_ofSign 4 (some .int), Cond.methodLink RX2 15 yX2_at, Cond.instanceMethod yX2_at, Cond.selects RX2 yX2_at yX2_at, Cond.code yX2_at cX2_at 3 (some .int), Cond.fieldLink RX2 9 "TypeFoundry$Sorts" "numbers" "[I", Cond.methodLink RX4 107 yX2_moveLeastWorn, Cond.instanceMethod yX2_moveLeastWorn, Cond.selects RX2 yX2_moveLeastWorn yX2_moveLeastWorn, Cond.code yX2_moveLeastWorn cX2_moveLeastWorn 8 (some .int), Cond.methodLink RX2 31 yX2_moveAt, Cond.instanceMethod yX2_moveAt, Cond.selects RX2 yX2_moveAt yX2_moveAt, Cond.code yX2_moveAt cX2_moveAt 6 (some .int), Cond.methodLink RX2 41 Lib.Math.min.name, Cond.static Lib.Math.min.name, Cond.initialized "java/lang/Math", Cond.code Lib.Math.min.name Lib.Math.min.code 2 (some .int)]
def wsL_rent_r3 : List Cond := [Cond.methodLink RX2 35 yX2_change, Cond.instanceMethod yX2_change, Cond.selects RX2 yX2_change yX2_change, Cond.code yX2_change cX2_change 4 none]
def wsL_rent : List Cond := .codeWith yL_rent cL_rent 6 (some .int) [(0, 12, 15, 13), (0, 12, 19, 15), (0, 12, 23, 17)] :: ((wsL_rent_r1 ++ (wsL_rent_r2 ++ wsL_rent_r3)) ++ wsX40 ++ wsX00 ++ wsX20 ++ (vx_atS RX4 55 "java/lang/IllegalStateException" ["java/lang/RuntimeException", "java/lang/Exception"]).filter goodWord ++ (vx_atS RX4 183 "java/lang/IndexOutOfBoundsException" ["java/lang/RuntimeException", "java/lang/Exception"]).filter goodWord ++ (vx_atS RX4 75 "java/lang/IllegalArgumentException" ["java/lang/RuntimeException", "java/lang/Exception"]).filter goodWord)
def wsL_giveBack_r1 : List Cond := [Cond.classLink RL 13 "java/lang/IndexOutOfBoundsException", Cond.classLink RL 15 "java/lang/IllegalArgumentException", Cond.classLink RL 17 "java/lang/IllegalStateException", Cond.methodLink RL 33 yX4_giveBack, Cond.instanceMethod yX4_giveBack, Cond.selects RX4 yX4_giveBack yX4_giveBack, Cond.initialized RX4, Cond.code yX4_giveBack cX4_giveBack 5 (some .int), Cond.classLink RX4 51 "java/lang/IllegalStateException", Cond.initialized "java/lang/IllegalStateException", Cond.fieldLink RX4 10 "TypeFoundry" "stock" "LTypeFoundry$Sorts;", Cond.methodLink RX4 98 yX4_needPrinter, Cond.instanceMethod yX4_needPrinter, Cond.selects RX4 yX4_needPrinter yX4_needPrinter, Cond.code yX4_needPrinter cX4_needPrinter 3 (some (.object "TypeFoundry$Printer")), Cond.classLink RX4 179 "java/lang/IndexOutOfBoundsException", Cond.initialized "java/lang/IndexOutOfBoundsException", Cond.fieldLink RX4 18 "TypeFoundry" "printers" "[LTypeFoundry$Printer;", Cond.methodLink RX4 40 yX4_needSign, Cond.static yX4_needSign, Cond.code yX4_needSign cX4_needSign 1 none, Cond.methodLink RX4 44 yX4_needMany, Cond.static yX4_needMany, Cond.code yX4_needMany cX4_needMany 1 none]
def wsL_giveBack_r2 : List Cond := [Cond.classLink RX4 71 "java/lang/IllegalArgumentException", Cond.initialized "java/lang/IllegalArgumentException", Cond.methodLink RX4 58 yX2_ofSign, Cond.instanceMethod yX2_ofSign, Cond.selects RX2 yX2_ofSign yX2_ofSign, Cond.initialized RX2, Cond.code yX2_ofSign cX2_ofSign 4 (some .int), Cond.methodLink RX2 15 yX2_at, Cond.instanceMethod yX2_at, Cond.selects RX2 yX2_at yX2_at, Cond.code yX2_at cX2_at 3 (some .int), Cond.fieldLink RX2 9 "TypeFoundry$Sorts" "numbers" "[I", Cond.methodLink RX4 113 yX2_moveMostWorn, Cond.instanceMethod yX2_moveMostWorn, Cond.selects RX2 yX2_moveMostWorn yX2_moveMostWorn, Cond.code yX2_moveMostWorn cX2_moveMostWorn 8 (some .int), Cond.methodLink RX2 31 yX2_moveAt, Cond.instanceMethod yX2_moveAt, Cond.selects RX2 yX2_moveAt yX2_moveAt, Cond.code yX2_moveAt cX2_moveAt 6 (some .int), Cond.methodLink RX2 41 Lib.Math.min.name, Cond.static Lib.Math.min.name, Cond.initialized "java/lang/Math", Cond.code Lib.Math.min.name Lib.Math.min.code 2 (some .int)]
def wsL_giveBack_r3 : List Cond := [Cond.methodLink RX2 35 yX2_change, Cond.instanceMethod yX2_change, Cond.selects RX2 yX2_change yX2_change, Cond.code yX2_change cX2_change 4 none]
def wsL_giveBack : List Cond := .codeWith yL_giveBack cL_giveBack 6 (some .int) [(0, 12, 15, 13), (0, 12, 19, 15), (0, 12, 23, 17)] :: ((wsL_giveBack_r1 ++ (wsL_giveBack_r2 ++ wsL_giveBack_r3)) ++ wsX00 ++ wsX40 ++ wsX20 ++ (vx_atS RX4 55 "java/lang/IllegalStateException" ["java/lang/RuntimeException", "java/lang/Exception"]).filter goodWord ++ (vx_atS RX4 183 "java/lang/IndexOutOfBoundsException" ["java/lang/RuntimeException", "java/lang/Exception"]).filter goodWord ++ (vx_atS RX4 75 "java/lang/IllegalArgumentException" ["java/lang/RuntimeException", "java/lang/Exception"]).filter goodWord)
def wsL_pay : List Cond := .codeWith yL_pay cL_pay 4 (some .int) [(0, 9, 12, 13)] :: ([.classLink RL 13 "java/lang/IndexOutOfBoundsException", .methodLink RL 36 yX4_pay, .instanceMethod yX4_pay, .selects RX4 yX4_pay yX4_pay, .initialized RX4, .code yX4_pay cX4_pay 4 (some .int), .methodLink RX4 122 Lib.Math.min.name, .static Lib.Math.min.name, .initialized "java/lang/Math", .code Lib.Math.min.name Lib.Math.min.code 2 (some .int), .fieldLink RX4 128 "TypeFoundry" "coins" "I", .methodLink RX4 98 yX4_needPrinter, .instanceMethod yX4_needPrinter, .selects RX4 yX4_needPrinter yX4_needPrinter, .code yX4_needPrinter cX4_needPrinter 3 (some (.object "TypeFoundry$Printer")), .classLink RX4 179 "java/lang/IndexOutOfBoundsException", .initialized "java/lang/IndexOutOfBoundsException", .fieldLink RX4 18 "TypeFoundry" "printers" "[LTypeFoundry$Printer;"] ++ wsX00 ++ wsX40 ++ (vx_atS RX4 183 "java/lang/IndexOutOfBoundsException" ["java/lang/RuntimeException", "java/lang/Exception"]).filter goodWord)
def wsL_set_r1 : List Cond := [Cond.classLink RL 13 "java/lang/IndexOutOfBoundsException", Cond.classLink RL 15 "java/lang/IllegalArgumentException", Cond.classLink RL 17 "java/lang/IllegalStateException", Cond.methodLink RL 39 yX4_set, Cond.instanceMethod yX4_set, Cond.selects RX4 yX4_set yX4_set, Cond.initialized RX4, Cond.code yX4_set cX4_set 7 (some .int), Cond.classLink RX4 51 "java/lang/IllegalStateException", Cond.initialized "java/lang/IllegalStateException", Cond.fieldLink RX4 36 "TypeFoundry" "setting" "LTypeFoundry$Setting;", Cond.methodLink RX4 98 yX4_needPrinter, Cond.instanceMethod yX4_needPrinter, Cond.selects RX4 yX4_needPrinter yX4_needPrinter, Cond.code yX4_needPrinter cX4_needPrinter 3 (some (.object "TypeFoundry$Printer")), Cond.classLink RX4 179 "java/lang/IndexOutOfBoundsException", Cond.initialized "java/lang/IndexOutOfBoundsException", Cond.fieldLink RX4 18 "TypeFoundry" "printers" "[LTypeFoundry$Printer;", Cond.methodLink RX4 129 yX4_needWord, Cond.instanceMethod yX4_needWord, Cond.selects RX4 yX4_needWord yX4_needWord, Cond.code yX4_needWord cX4_needWord 2 (some (.object "TypeFoundry$Word")), Cond.classLink RX4 71 "java/lang/IllegalArgumentException", Cond.initialized "java/lang/IllegalArgumentException"]
def wsL_set_r2 : List Cond := [Cond.fieldLink RX4 29 "TypeFoundry" "spelled" "LTypeFoundry$Word;", Cond.methodLink RX4 228 yX3_spell, Cond.instanceMethod yX3_spell, Cond.selects RX3 yX3_spell yX3_spell, Cond.initialized RX3, Cond.code yX3_spell cX3_spell 5 (some .boolean), Cond.constant RX3 19 (387420488), Cond.fieldLink RX3 9 "TypeFoundry$Word" "letters" "[I", Cond.fieldLink RX3 15 "TypeFoundry$Word" "firstPlace" "I", Cond.methodLink RX4 133 yX1_fillFrom, Cond.instanceMethod yX1_fillFrom, Cond.selects RX1 yX1_fillFrom yX1_fillFrom, Cond.initialized RX1, Cond.code yX1_fillFrom cX1_fillFrom 3 none, Cond.fieldLink RX1 9 "TypeFoundry$Setting" "left" "[I", Cond.methodLink RX1 18 yX2_ofSign, Cond.instanceMethod yX2_ofSign, Cond.selects RX2 yX2_ofSign yX2_ofSign, Cond.initialized RX2, Cond.code yX2_ofSign cX2_ofSign 4 (some .int), Cond.methodLink RX2 15 yX2_at, Cond.instanceMethod yX2_at, Cond.selects RX2 yX2_at yX2_at, Cond.code yX2_at cX2_at 3 (some .int)]
def wsL_set_r3 : List Cond := [Cond.fieldLink RX2 9 "TypeFoundry$Sorts" "numbers" "[I", Cond.methodLink RX4 137 yX1_lay, Cond.instanceMethod yX1_lay, Cond.selects RX1 yX1_lay yX1_lay, Cond.code yX1_lay cX1_lay 5 (some .int), Cond.fieldLink RX1 15 "TypeFoundry$Setting" "taken" "[I", Cond.methodLink RX1 24 yJ7_fill_53178, Cond.static yJ7_fill_53178, Cond.initialized RJ7, Cond.code yJ7_fill_53178 cJ7_fill_53178 4 none, Cond.methodLink RX1 30 yX3_firstPlace, Cond.instanceMethod yX3_firstPlace, Cond.selects RX3 yX3_firstPlace yX3_firstPlace, Cond.code yX3_firstPlace cX3_firstPlace 1 (some .int), Cond.methodLink RX1 36 yX1_signFor, Cond.instanceMethod yX1_signFor, Cond.selects RX1 yX1_signFor yX1_signFor, Cond.code yX1_signFor cX1_signFor 4 (some .int), Cond.methodLink RX1 60 yX3_ligatureAt, Cond.instanceMethod yX3_ligatureAt, Cond.selects RX3 yX3_ligatureAt yX3_ligatureAt, Cond.code yX3_ligatureAt cX3_ligatureAt 2 (some .int), Cond.methodLink RX3 20 yX3_letterAt, Cond.instanceMethod yX3_letterAt]
def wsL_set_r4 : List Cond := [Cond.selects RX3 yX3_letterAt yX3_letterAt, Cond.code yX3_letterAt cX3_letterAt 2 (some .int), Cond.methodLink RX1 63 yX3_letterAt, Cond.static yX4_isLigature, Cond.code yX4_isLigature cX4_isLigature 1 (some .boolean), Cond.methodLink RX4 146 yX2_inAll, Cond.instanceMethod yX2_inAll, Cond.selects RX2 yX2_inAll yX2_inAll, Cond.code yX2_inAll cX2_inAll 3 (some .int), Cond.methodLink RX4 152 yX1_taken, Cond.instanceMethod yX1_taken, Cond.selects RX1 yX1_taken yX1_taken, Cond.code yX1_taken cX1_taken 2 (some .int), Cond.methodLink RX4 113 yX2_moveMostWorn, Cond.instanceMethod yX2_moveMostWorn, Cond.selects RX2 yX2_moveMostWorn yX2_moveMostWorn, Cond.code yX2_moveMostWorn cX2_moveMostWorn 8 (some .int), Cond.methodLink RX2 31 yX2_moveAt, Cond.instanceMethod yX2_moveAt, Cond.selects RX2 yX2_moveAt yX2_moveAt, Cond.code yX2_moveAt cX2_moveAt 6 (some .int), Cond.methodLink RX2 41 Lib.Math.min.name, Cond.static Lib.Math.min.name, Cond.initialized "java/lang/Math"]
def wsL_set_r5 : List Cond := [Cond.code Lib.Math.min.name Lib.Math.min.code 2 (some .int), Cond.methodLink RX2 35 yX2_change, Cond.instanceMethod yX2_change, Cond.selects RX2 yX2_change yX2_change, Cond.code yX2_change cX2_change 4 none]
def wsL_set : List Cond := .codeWith yL_set cL_set 5 (some .int) [(0, 10, 13, 13), (0, 10, 17, 15), (0, 10, 21, 17)] :: ((wsL_set_r1 ++ (wsL_set_r2 ++ (wsL_set_r3 ++ (wsL_set_r4 ++ wsL_set_r5)))) ++ wsX40 ++ wsX00 ++ wsX30 ++ wsX10 ++ wsX20 ++ (vx_atS RX4 55 "java/lang/IllegalStateException" ["java/lang/RuntimeException", "java/lang/Exception"]).filter goodWord ++ (vx_atS RX4 183 "java/lang/IndexOutOfBoundsException" ["java/lang/RuntimeException", "java/lang/Exception"]).filter goodWord ++ (vx_atS RX4 75 "java/lang/IllegalArgumentException" ["java/lang/RuntimeException", "java/lang/Exception"]).filter goodWord)
def wsL_print_r1 : List Cond := [Cond.classLink RL 13 "java/lang/IndexOutOfBoundsException", Cond.classLink RL 15 "java/lang/IllegalArgumentException", Cond.classLink RL 17 "java/lang/IllegalStateException", Cond.methodLink RL 42 yX4_print, Cond.instanceMethod yX4_print, Cond.selects RX4 yX4_print yX4_print, Cond.initialized RX4, Cond.code yX4_print cX4_print 5 (some .int), Cond.classLink RX4 71 "java/lang/IllegalArgumentException", Cond.initialized "java/lang/IllegalArgumentException", Cond.classLink RX4 51 "java/lang/IllegalStateException", Cond.initialized "java/lang/IllegalStateException", Cond.fieldLink RX4 168 "TypeFoundry" "everBroken" "I", Cond.methodLink RX4 98 yX4_needPrinter, Cond.instanceMethod yX4_needPrinter, Cond.selects RX4 yX4_needPrinter yX4_needPrinter, Cond.code yX4_needPrinter cX4_needPrinter 3 (some (.object "TypeFoundry$Printer")), Cond.classLink RX4 179 "java/lang/IndexOutOfBoundsException", Cond.initialized "java/lang/IndexOutOfBoundsException", Cond.fieldLink RX4 18 "TypeFoundry" "printers" "[LTypeFoundry$Printer;", Cond.methodLink RX4 146 yX2_inAll, Cond.instanceMethod yX2_inAll, Cond.selects RX2 yX2_inAll yX2_inAll, Cond.initialized RX2]
def wsL_print_r2 : List Cond := [Cond.code yX2_inAll cX2_inAll 3 (some .int), Cond.fieldLink RX2 9 "TypeFoundry$Sorts" "numbers" "[I", Cond.methodLink RX4 162 yX2_wearBy, Cond.instanceMethod yX2_wearBy, Cond.selects RX2 yX2_wearBy yX2_wearBy, Cond.code yX2_wearBy cX2_wearBy 6 (some .int), Cond.methodLink RX2 28 yX2_empty, Cond.instanceMethod yX2_empty, Cond.selects RX2 yX2_empty yX2_empty, Cond.code yX2_empty cX2_empty 4 (some .int), Cond.methodLink RX2 15 yX2_at, Cond.instanceMethod yX2_at, Cond.selects RX2 yX2_at yX2_at, Cond.code yX2_at cX2_at 3 (some .int), Cond.methodLink RX2 35 yX2_change, Cond.instanceMethod yX2_change, Cond.selects RX2 yX2_change yX2_change, Cond.code yX2_change cX2_change 4 none]
def wsL_print : List Cond := .codeWith yL_print cL_print 5 (some .int) [(0, 10, 13, 13), (0, 10, 17, 15), (0, 10, 21, 17)] :: ((wsL_print_r1 ++ wsL_print_r2) ++ wsX00 ++ wsX40 ++ wsX20 ++ (vx_atS RX4 75 "java/lang/IllegalArgumentException" ["java/lang/RuntimeException", "java/lang/Exception"]).filter goodWord ++ (vx_atS RX4 55 "java/lang/IllegalStateException" ["java/lang/RuntimeException", "java/lang/Exception"]).filter goodWord ++ (vx_atS RX4 183 "java/lang/IndexOutOfBoundsException" ["java/lang/RuntimeException", "java/lang/Exception"]).filter goodWord)
def wsL_distribute_r1 : List Cond := [Cond.classLink RL 13 "java/lang/IndexOutOfBoundsException", Cond.methodLink RL 45 yX4_distribute, Cond.instanceMethod yX4_distribute, Cond.selects RX4 yX4_distribute yX4_distribute, Cond.initialized RX4, Cond.code yX4_distribute cX4_distribute 5 (some .int), Cond.methodLink RX4 98 yX4_needPrinter, Cond.instanceMethod yX4_needPrinter, Cond.selects RX4 yX4_needPrinter yX4_needPrinter, Cond.code yX4_needPrinter cX4_needPrinter 3 (some (.object "TypeFoundry$Printer")), Cond.classLink RX4 179 "java/lang/IndexOutOfBoundsException", Cond.initialized "java/lang/IndexOutOfBoundsException", Cond.fieldLink RX4 18 "TypeFoundry" "printers" "[LTypeFoundry$Printer;", Cond.methodLink RX4 146 yX2_inAll, Cond.instanceMethod yX2_inAll, Cond.selects RX2 yX2_inAll yX2_inAll, Cond.initialized RX2, Cond.code yX2_inAll cX2_inAll 3 (some .int), Cond.fieldLink RX2 9 "TypeFoundry$Sorts" "numbers" "[I", Cond.methodLink RX4 58 yX2_ofSign, Cond.instanceMethod yX2_ofSign, Cond.selects RX2 yX2_ofSign yX2_ofSign, Cond.code yX2_ofSign cX2_ofSign 4 (some .int), Cond.methodLink RX2 15 yX2_at]
def wsL_distribute_r2 : List Cond := [Cond.instanceMethod yX2_at, Cond.selects RX2 yX2_at yX2_at, Cond.code yX2_at cX2_at 3 (some .int), Cond.methodLink RX4 107 yX2_moveLeastWorn, Cond.instanceMethod yX2_moveLeastWorn, Cond.selects RX2 yX2_moveLeastWorn yX2_moveLeastWorn, Cond.code yX2_moveLeastWorn cX2_moveLeastWorn 8 (some .int), Cond.methodLink RX2 31 yX2_moveAt, Cond.instanceMethod yX2_moveAt, Cond.selects RX2 yX2_moveAt yX2_moveAt, Cond.code yX2_moveAt cX2_moveAt 6 (some .int), Cond.methodLink RX2 41 Lib.Math.min.name, Cond.static Lib.Math.min.name, Cond.initialized "java/lang/Math", Cond.code Lib.Math.min.name Lib.Math.min.code 2 (some .int), Cond.methodLink RX2 35 yX2_change, Cond.instanceMethod yX2_change, Cond.selects RX2 yX2_change yX2_change, Cond.code yX2_change cX2_change 4 none]
def wsL_distribute : List Cond := .codeWith yL_distribute cL_distribute 4 (some .int) [(0, 9, 12, 13)] :: ((wsL_distribute_r1 ++ wsL_distribute_r2) ++ wsX00 ++ wsX40 ++ wsX20 ++ (vx_atS RX4 183 "java/lang/IndexOutOfBoundsException" ["java/lang/RuntimeException", "java/lang/Exception"]).filter goodWord)
def wsL_pass : List Cond := .codeWith yL_pass cL_pass 4 (some .int) [(0, 9, 12, 15)] :: ([.classLink RL 15 "java/lang/IllegalArgumentException", .methodLink RL 48 yX4_pass, .instanceMethod yX4_pass, .selects RX4 yX4_pass yX4_pass, .initialized RX4, .code yX4_pass cX4_pass 5 (some .int), .classLink RX4 71 "java/lang/IllegalArgumentException", .initialized "java/lang/IllegalArgumentException", .fieldLink RX4 173 "TypeFoundry" "day" "I", .fieldLink RX4 18 "TypeFoundry" "printers" "[LTypeFoundry$Printer;", .methodLink RX4 176 yX0_rentOfADay, .instanceMethod yX0_rentOfADay, .selects RX0 yX0_rentOfADay yX0_rentOfADay, .initialized RX0, .code yX0_rentOfADay cX0_rentOfADay 1 (some .int), .fieldLink RX0 12 "TypeFoundry$Printer" "tray" "LTypeFoundry$Sorts;", .fieldLink RX0 18 "TypeFoundry$Printer" "form" "LTypeFoundry$Sorts;", .methodLink RX0 25 yX2_inAll, .instanceMethod yX2_inAll, .selects RX2 yX2_inAll yX2_inAll, .initialized RX2, .code yX2_inAll cX2_inAll 3 (some .int), .fieldLink RX2 9 "TypeFoundry$Sorts" "numbers" "[I"] ++ wsX40 ++ wsX00 ++ wsX20 ++ (vx_atS RX4 75 "java/lang/IllegalArgumentException" ["java/lang/RuntimeException", "java/lang/Exception"]).filter goodWord)
def wsL_sorts : List Cond := .codeWith yL_sorts cL_sorts 6 (some .int) [(0, 12, 15, 13)] :: ([.classLink RL 13 "java/lang/IndexOutOfBoundsException", .methodLink RL 51 yX4_sorts, .instanceMethod yX4_sorts, .selects RX4 yX4_sorts yX4_sorts, .initialized RX4, .code yX4_sorts cX4_sorts 5 (some .int), .classLink RX4 179 "java/lang/IndexOutOfBoundsException", .initialized "java/lang/IndexOutOfBoundsException", .fieldLink RX4 10 "TypeFoundry" "stock" "LTypeFoundry$Sorts;", .methodLink RX4 98 yX4_needPrinter, .instanceMethod yX4_needPrinter, .selects RX4 yX4_needPrinter yX4_needPrinter, .code yX4_needPrinter cX4_needPrinter 3 (some (.object "TypeFoundry$Printer")), .fieldLink RX4 18 "TypeFoundry" "printers" "[LTypeFoundry$Printer;", .methodLink RX4 40 yX4_needSign, .static yX4_needSign, .code yX4_needSign cX4_needSign 1 none, .methodLink RX4 184 yX2_at, .instanceMethod yX2_at, .selects RX2 yX2_at yX2_at, .initialized RX2, .code yX2_at cX2_at 3 (some .int), .fieldLink RX2 9 "TypeFoundry$Sorts" "numbers" "[I"] ++ wsX40 ++ wsX00 ++ wsX20 ++ (vx_atS RX4 183 "java/lang/IndexOutOfBoundsException" ["java/lang/RuntimeException", "java/lang/Exception"]).filter goodWord)
def wsL_printer_r1 : List Cond := [Cond.classLink RL 13 "java/lang/IndexOutOfBoundsException", Cond.methodLink RL 54 yX4_printer, Cond.instanceMethod yX4_printer, Cond.selects RX4 yX4_printer yX4_printer, Cond.initialized RX4, Cond.code yX4_printer cX4_printer 4 (some .int), Cond.classLink RX4 179 "java/lang/IndexOutOfBoundsException", Cond.initialized "java/lang/IndexOutOfBoundsException", Cond.methodLink RX4 98 yX4_needPrinter, Cond.instanceMethod yX4_needPrinter, Cond.selects RX4 yX4_needPrinter yX4_needPrinter, Cond.code yX4_needPrinter cX4_needPrinter 3 (some (.object "TypeFoundry$Printer")), Cond.fieldLink RX4 18 "TypeFoundry" "printers" "[LTypeFoundry$Printer;", Cond.methodLink RX4 189 yX0_number, Cond.instanceMethod yX0_number, Cond.selects RX0 yX0_number yX0_number, Cond.initialized RX0, Cond.code yX0_number cX0_number 2 (some .int), Cond.fieldLink RX0 21 "TypeFoundry$Printer" "coins" "I", Cond.fieldLink RX0 29 "TypeFoundry$Printer" "owed" "I", Cond.fieldLink RX0 12 "TypeFoundry$Printer" "tray" "LTypeFoundry$Sorts;", Cond.fieldLink RX0 18 "TypeFoundry$Printer" "form" "LTypeFoundry$Sorts;", Cond.fieldLink RX0 35 "TypeFoundry$Printer" "copies" "I", Cond.fieldLink RX0 38 "TypeFoundry$Printer" "words" "I"]
def wsL_printer_r2 : List Cond := [Cond.methodLink RX0 25 yX2_inAll, Cond.instanceMethod yX2_inAll, Cond.selects RX2 yX2_inAll yX2_inAll, Cond.initialized RX2, Cond.code yX2_inAll cX2_inAll 3 (some .int), Cond.fieldLink RX2 9 "TypeFoundry$Sorts" "numbers" "[I", Cond.methodLink RX0 32 yX2_wearInAll, Cond.instanceMethod yX2_wearInAll, Cond.selects RX2 yX2_wearInAll yX2_wearInAll, Cond.code yX2_wearInAll cX2_wearInAll 3 (some .int)]
def wsL_printer : List Cond := .codeWith yL_printer cL_printer 5 (some .int) [(0, 10, 13, 13)] :: ((wsL_printer_r1 ++ wsL_printer_r2) ++ wsX40 ++ wsX00 ++ wsX20 ++ (vx_atS RX4 183 "java/lang/IndexOutOfBoundsException" ["java/lang/RuntimeException", "java/lang/Exception"]).filter goodWord)
def wsL_count_r1 : List Cond := [Cond.classLink RL 13 "java/lang/IndexOutOfBoundsException", Cond.methodLink RL 57 yX4_count, Cond.instanceMethod yX4_count, Cond.selects RX4 yX4_count yX4_count, Cond.initialized RX4, Cond.code yX4_count cX4_count 2 (some .int), Cond.classLink RX4 179 "java/lang/IndexOutOfBoundsException", Cond.initialized "java/lang/IndexOutOfBoundsException", Cond.methodLink RX4 194 yX4_number, Cond.instanceMethod yX4_number, Cond.selects RX4 yX4_number yX4_number, Cond.code yX4_number cX4_number 2 (some .int), Cond.fieldLink RX4 173 "TypeFoundry" "day" "I", Cond.fieldLink RX4 22 "TypeFoundry" "metal" "I", Cond.fieldLink RX4 128 "TypeFoundry" "coins" "I", Cond.fieldLink RX4 10 "TypeFoundry" "stock" "LTypeFoundry$Sorts;", Cond.fieldLink RX4 91 "TypeFoundry" "printersThere" "I", Cond.fieldLink RX4 68 "TypeFoundry" "everCast" "I", Cond.fieldLink RX4 168 "TypeFoundry" "everBroken" "I", Cond.fieldLink RX4 84 "TypeFoundry" "everMelted" "I", Cond.methodLink RX4 146 yX2_inAll, Cond.instanceMethod yX2_inAll, Cond.selects RX2 yX2_inAll yX2_inAll, Cond.initialized RX2]
def wsL_count_r2 : List Cond := [Cond.code yX2_inAll cX2_inAll 3 (some .int), Cond.fieldLink RX2 9 "TypeFoundry$Sorts" "numbers" "[I"]
def wsL_count : List Cond := .codeWith yL_count cL_count 4 (some .int) [(0, 9, 12, 13)] :: ((wsL_count_r1 ++ wsL_count_r2) ++ wsX40 ++ wsX20 ++ (vx_atS RX4 183 "java/lang/IndexOutOfBoundsException" ["java/lang/RuntimeException", "java/lang/Exception"]).filter goodWord)
def wsL_takes_r1 : List Cond := [Cond.classLink RL 13 "java/lang/IndexOutOfBoundsException", Cond.classLink RL 15 "java/lang/IllegalArgumentException", Cond.methodLink RL 60 yX4_takes, Cond.instanceMethod yX4_takes, Cond.selects RX4 yX4_takes yX4_takes, Cond.initialized RX4, Cond.code yX4_takes cX4_takes 5 (some .int), Cond.fieldLink RX4 36 "TypeFoundry" "setting" "LTypeFoundry$Setting;", Cond.methodLink RX4 98 yX4_needPrinter, Cond.instanceMethod yX4_needPrinter, Cond.selects RX4 yX4_needPrinter yX4_needPrinter, Cond.code yX4_needPrinter cX4_needPrinter 3 (some (.object "TypeFoundry$Printer")), Cond.classLink RX4 179 "java/lang/IndexOutOfBoundsException", Cond.initialized "java/lang/IndexOutOfBoundsException", Cond.fieldLink RX4 18 "TypeFoundry" "printers" "[LTypeFoundry$Printer;", Cond.methodLink RX4 129 yX4_needWord, Cond.instanceMethod yX4_needWord, Cond.selects RX4 yX4_needWord yX4_needWord, Cond.code yX4_needWord cX4_needWord 2 (some (.object "TypeFoundry$Word")), Cond.classLink RX4 71 "java/lang/IllegalArgumentException", Cond.initialized "java/lang/IllegalArgumentException", Cond.fieldLink RX4 29 "TypeFoundry" "spelled" "LTypeFoundry$Word;", Cond.methodLink RX4 228 yX3_spell, Cond.instanceMethod yX3_spell]
def wsL_takes_r2 : List Cond := [Cond.selects RX3 yX3_spell yX3_spell, Cond.initialized RX3, Cond.code yX3_spell cX3_spell 5 (some .boolean), Cond.constant RX3 19 (387420488), Cond.fieldLink RX3 9 "TypeFoundry$Word" "letters" "[I", Cond.fieldLink RX3 15 "TypeFoundry$Word" "firstPlace" "I", Cond.methodLink RX4 133 yX1_fillFrom, Cond.instanceMethod yX1_fillFrom, Cond.selects RX1 yX1_fillFrom yX1_fillFrom, Cond.initialized RX1, Cond.code yX1_fillFrom cX1_fillFrom 3 none, Cond.fieldLink RX1 9 "TypeFoundry$Setting" "left" "[I", Cond.methodLink RX1 18 yX2_ofSign, Cond.instanceMethod yX2_ofSign, Cond.selects RX2 yX2_ofSign yX2_ofSign, Cond.initialized RX2, Cond.code yX2_ofSign cX2_ofSign 4 (some .int), Cond.methodLink RX2 15 yX2_at, Cond.instanceMethod yX2_at, Cond.selects RX2 yX2_at yX2_at, Cond.code yX2_at cX2_at 3 (some .int), Cond.fieldLink RX2 9 "TypeFoundry$Sorts" "numbers" "[I", Cond.methodLink RX4 137 yX1_lay, Cond.instanceMethod yX1_lay]
def wsL_takes_r3 : List Cond := [Cond.selects RX1 yX1_lay yX1_lay, Cond.code yX1_lay cX1_lay 5 (some .int), Cond.fieldLink RX1 15 "TypeFoundry$Setting" "taken" "[I", Cond.methodLink RX1 24 yJ7_fill_53178, Cond.static yJ7_fill_53178, Cond.initialized RJ7, Cond.code yJ7_fill_53178 cJ7_fill_53178 4 none, Cond.methodLink RX1 30 yX3_firstPlace, Cond.instanceMethod yX3_firstPlace, Cond.selects RX3 yX3_firstPlace yX3_firstPlace, Cond.code yX3_firstPlace cX3_firstPlace 1 (some .int), Cond.methodLink RX1 36 yX1_signFor, Cond.instanceMethod yX1_signFor, Cond.selects RX1 yX1_signFor yX1_signFor, Cond.code yX1_signFor cX1_signFor 4 (some .int), Cond.methodLink RX1 60 yX3_ligatureAt, Cond.instanceMethod yX3_ligatureAt, Cond.selects RX3 yX3_ligatureAt yX3_ligatureAt, Cond.code yX3_ligatureAt cX3_ligatureAt 2 (some .int), Cond.methodLink RX3 20 yX3_letterAt, Cond.instanceMethod yX3_letterAt, Cond.selects RX3 yX3_letterAt yX3_letterAt, Cond.code yX3_letterAt cX3_letterAt 2 (some .int), Cond.methodLink RX1 63 yX3_letterAt]
def wsL_takes_r4 : List Cond := [Cond.static yX4_isLigature, Cond.code yX4_isLigature cX4_isLigature 1 (some .boolean)]
def wsL_takes : List Cond := .codeWith yL_takes cL_takes 5 (some .int) [(0, 10, 13, 13), (0, 10, 17, 15)] :: ((wsL_takes_r1 ++ (wsL_takes_r2 ++ (wsL_takes_r3 ++ wsL_takes_r4))) ++ wsX40 ++ wsX00 ++ wsX30 ++ wsX10 ++ wsX20 ++ (vx_atS RX4 183 "java/lang/IndexOutOfBoundsException" ["java/lang/RuntimeException", "java/lang/Exception"]).filter goodWord ++ (vx_atS RX4 75 "java/lang/IllegalArgumentException" ["java/lang/RuntimeException", "java/lang/Exception"]).filter goodWord)
def wsL_lacks_r1 : List Cond := [Cond.classLink RL 13 "java/lang/IndexOutOfBoundsException", Cond.classLink RL 15 "java/lang/IllegalArgumentException", Cond.methodLink RL 63 yX4_lacks, Cond.instanceMethod yX4_lacks, Cond.selects RX4 yX4_lacks yX4_lacks, Cond.initialized RX4, Cond.code yX4_lacks cX4_lacks 9 (some .int), Cond.methodLink RX4 98 yX4_needPrinter, Cond.instanceMethod yX4_needPrinter, Cond.selects RX4 yX4_needPrinter yX4_needPrinter, Cond.code yX4_needPrinter cX4_needPrinter 3 (some (.object "TypeFoundry$Printer")), Cond.classLink RX4 179 "java/lang/IndexOutOfBoundsException", Cond.initialized "java/lang/IndexOutOfBoundsException", Cond.fieldLink RX4 18 "TypeFoundry" "printers" "[LTypeFoundry$Printer;", Cond.methodLink RX4 129 yX4_needWord, Cond.instanceMethod yX4_needWord, Cond.selects RX4 yX4_needWord yX4_needWord, Cond.code yX4_needWord cX4_needWord 2 (some (.object "TypeFoundry$Word")), Cond.classLink RX4 71 "java/lang/IllegalArgumentException", Cond.initialized "java/lang/IllegalArgumentException", Cond.fieldLink RX4 29 "TypeFoundry" "spelled" "LTypeFoundry$Word;", Cond.methodLink RX4 228 yX3_spell, Cond.instanceMethod yX3_spell, Cond.selects RX3 yX3_spell yX3_spell]
def wsL_lacks_r2 : List Cond := [Cond.initialized RX3, Cond.code yX3_spell cX3_spell 5 (some .boolean), Cond.constant RX3 19 (387420488), Cond.fieldLink RX3 9 "TypeFoundry$Word" "letters" "[I", Cond.fieldLink RX3 15 "TypeFoundry$Word" "firstPlace" "I", Cond.methodLink RX4 195 yX3_howOften, Cond.instanceMethod yX3_howOften, Cond.selects RX3 yX3_howOften yX3_howOften, Cond.code yX3_howOften cX3_howOften 4 (some .int), Cond.methodLink RX3 20 yX3_letterAt, Cond.instanceMethod yX3_letterAt, Cond.selects RX3 yX3_letterAt yX3_letterAt, Cond.code yX3_letterAt cX3_letterAt 2 (some .int), Cond.methodLink RX4 58 yX2_ofSign, Cond.instanceMethod yX2_ofSign, Cond.selects RX2 yX2_ofSign yX2_ofSign, Cond.initialized RX2, Cond.code yX2_ofSign cX2_ofSign 4 (some .int), Cond.methodLink RX2 15 yX2_at, Cond.instanceMethod yX2_at, Cond.selects RX2 yX2_at yX2_at, Cond.code yX2_at cX2_at 3 (some .int), Cond.fieldLink RX2 9 "TypeFoundry$Sorts" "numbers" "[I"]
def wsL_lacks : List Cond := .codeWith yL_lacks cL_lacks 5 (some .int) [(0, 10, 13, 13), (0, 10, 17, 15)] :: ((wsL_lacks_r1 ++ wsL_lacks_r2) ++ wsX00 ++ wsX40 ++ wsX30 ++ wsX20 ++ (vx_atS RX4 183 "java/lang/IndexOutOfBoundsException" ["java/lang/RuntimeException", "java/lang/Exception"]).filter goodWord ++ (vx_atS RX4 75 "java/lang/IllegalArgumentException" ["java/lang/RuntimeException", "java/lang/Exception"]).filter goodWord)
def wsL_bears : List Cond := .codeWith yL_bears cL_bears 4 (some .int) [(0, 9, 12, 13)] :: ([.classLink RL 13 "java/lang/IndexOutOfBoundsException", .methodLink RL 66 yX4_bears, .instanceMethod yX4_bears, .selects RX4 yX4_bears yX4_bears, .initialized RX4, .code yX4_bears cX4_bears 4 (some .int), .methodLink RX4 98 yX4_needPrinter, .instanceMethod yX4_needPrinter, .selects RX4 yX4_needPrinter yX4_needPrinter, .code yX4_needPrinter cX4_needPrinter 3 (some (.object "TypeFoundry$Printer")), .classLink RX4 179 "java/lang/IndexOutOfBoundsException", .initialized "java/lang/IndexOutOfBoundsException", .fieldLink RX4 18 "TypeFoundry" "printers" "[LTypeFoundry$Printer;", .methodLink RX4 198 yX2_greatestWear, .instanceMethod yX2_greatestWear, .selects RX2 yX2_greatestWear yX2_greatestWear, .initialized RX2, .code yX2_greatestWear cX2_greatestWear 3 (some .int), .fieldLink RX2 9 "TypeFoundry$Sorts" "numbers" "[I", .methodLink RX2 19 Lib.Math.max.name, .static Lib.Math.max.name, .initialized "java/lang/Math", .code Lib.Math.max.name Lib.Math.max.code 2 (some .int)] ++ wsX00 ++ wsX40 ++ wsX20 ++ (vx_atS RX4 183 "java/lang/IndexOutOfBoundsException" ["java/lang/RuntimeException", "java/lang/Exception"]).filter goodWord)
def wsL_saves_r1 : List Cond := [Cond.classLink RL 15 "java/lang/IllegalArgumentException", Cond.methodLink RL 69 yX4_saves, Cond.instanceMethod yX4_saves, Cond.selects RX4 yX4_saves yX4_saves, Cond.initialized RX4, Cond.code yX4_saves cX4_saves 7 (some .int), Cond.fieldLink RX4 36 "TypeFoundry" "setting" "LTypeFoundry$Setting;", Cond.methodLink RX4 201 yX1_fillWithoutEnd, Cond.instanceMethod yX1_fillWithoutEnd, Cond.selects RX1 yX1_fillWithoutEnd yX1_fillWithoutEnd, Cond.initialized RX1, Cond.code yX1_fillWithoutEnd cX1_fillWithoutEnd 1 none, Cond.fieldLink RX1 9 "TypeFoundry$Setting" "left" "[I", Cond.methodLink RX1 24 yJ7_fill_53178, Cond.static yJ7_fill_53178, Cond.initialized RJ7, Cond.code yJ7_fill_53178 cJ7_fill_53178 4 none, Cond.methodLink RX4 129 yX4_needWord, Cond.instanceMethod yX4_needWord, Cond.selects RX4 yX4_needWord yX4_needWord, Cond.code yX4_needWord cX4_needWord 2 (some (.object "TypeFoundry$Word")), Cond.classLink RX4 71 "java/lang/IllegalArgumentException", Cond.initialized "java/lang/IllegalArgumentException", Cond.fieldLink RX4 29 "TypeFoundry" "spelled" "LTypeFoundry$Word;"]
def wsL_saves_r2 : List Cond := [Cond.methodLink RX4 228 yX3_spell, Cond.instanceMethod yX3_spell, Cond.selects RX3 yX3_spell yX3_spell, Cond.initialized RX3, Cond.code yX3_spell cX3_spell 5 (some .boolean), Cond.constant RX3 19 (387420488), Cond.fieldLink RX3 9 "TypeFoundry$Word" "letters" "[I", Cond.fieldLink RX3 15 "TypeFoundry$Word" "firstPlace" "I", Cond.methodLink RX4 137 yX1_lay, Cond.instanceMethod yX1_lay, Cond.selects RX1 yX1_lay yX1_lay, Cond.code yX1_lay cX1_lay 5 (some .int), Cond.fieldLink RX1 15 "TypeFoundry$Setting" "taken" "[I", Cond.methodLink RX1 30 yX3_firstPlace, Cond.instanceMethod yX3_firstPlace, Cond.selects RX3 yX3_firstPlace yX3_firstPlace, Cond.code yX3_firstPlace cX3_firstPlace 1 (some .int), Cond.methodLink RX1 36 yX1_signFor, Cond.instanceMethod yX1_signFor, Cond.selects RX1 yX1_signFor yX1_signFor, Cond.code yX1_signFor cX1_signFor 4 (some .int), Cond.methodLink RX1 60 yX3_ligatureAt, Cond.instanceMethod yX3_ligatureAt, Cond.selects RX3 yX3_ligatureAt yX3_ligatureAt]
def wsL_saves_r3 : List Cond := [Cond.code yX3_ligatureAt cX3_ligatureAt 2 (some .int), Cond.methodLink RX3 20 yX3_letterAt, Cond.instanceMethod yX3_letterAt, Cond.selects RX3 yX3_letterAt yX3_letterAt, Cond.code yX3_letterAt cX3_letterAt 2 (some .int), Cond.methodLink RX1 63 yX3_letterAt, Cond.static yX4_isLigature, Cond.code yX4_isLigature cX4_isLigature 1 (some .boolean), Cond.methodLink RX4 204 yX1_takenOfPlenty, Cond.instanceMethod yX1_takenOfPlenty, Cond.selects RX1 yX1_takenOfPlenty yX1_takenOfPlenty, Cond.code yX1_takenOfPlenty cX1_takenOfPlenty 2 (some .int)]
def wsL_saves : List Cond := .codeWith yL_saves cL_saves 5 (some .int) [(0, 10, 13, 15)] :: ((wsL_saves_r1 ++ (wsL_saves_r2 ++ wsL_saves_r3)) ++ wsX40 ++ wsX10 ++ wsX30 ++ (vx_atS RX4 75 "java/lang/IllegalArgumentException" ["java/lang/RuntimeException", "java/lang/Exception"]).filter goodWord)
def wsL_times_r1 : List Cond := [Cond.classLink RL 13 "java/lang/IndexOutOfBoundsException", Cond.classLink RL 15 "java/lang/IllegalArgumentException", Cond.methodLink RL 72 yX4_times, Cond.instanceMethod yX4_times, Cond.selects RX4 yX4_times yX4_times, Cond.initialized RX4, Cond.code yX4_times cX4_times 5 (some .int), Cond.fieldLink RX4 36 "TypeFoundry" "setting" "LTypeFoundry$Setting;", Cond.methodLink RX4 98 yX4_needPrinter, Cond.instanceMethod yX4_needPrinter, Cond.selects RX4 yX4_needPrinter yX4_needPrinter, Cond.code yX4_needPrinter cX4_needPrinter 3 (some (.object "TypeFoundry$Printer")), Cond.classLink RX4 179 "java/lang/IndexOutOfBoundsException", Cond.initialized "java/lang/IndexOutOfBoundsException", Cond.fieldLink RX4 18 "TypeFoundry" "printers" "[LTypeFoundry$Printer;", Cond.methodLink RX4 129 yX4_needWord, Cond.instanceMethod yX4_needWord, Cond.selects RX4 yX4_needWord yX4_needWord, Cond.code yX4_needWord cX4_needWord 2 (some (.object "TypeFoundry$Word")), Cond.classLink RX4 71 "java/lang/IllegalArgumentException", Cond.initialized "java/lang/IllegalArgumentException", Cond.fieldLink RX4 29 "TypeFoundry" "spelled" "LTypeFoundry$Word;", Cond.methodLink RX4 228 yX3_spell, Cond.instanceMethod yX3_spell]
def wsL_times_r2 : List Cond := [Cond.selects RX3 yX3_spell yX3_spell, Cond.initialized RX3, Cond.code yX3_spell cX3_spell 5 (some .boolean), Cond.constant RX3 19 (387420488), Cond.fieldLink RX3 9 "TypeFoundry$Word" "letters" "[I", Cond.fieldLink RX3 15 "TypeFoundry$Word" "firstPlace" "I", Cond.methodLink RX4 133 yX1_fillFrom, Cond.instanceMethod yX1_fillFrom, Cond.selects RX1 yX1_fillFrom yX1_fillFrom, Cond.initialized RX1, Cond.code yX1_fillFrom cX1_fillFrom 3 none, Cond.fieldLink RX1 9 "TypeFoundry$Setting" "left" "[I", Cond.methodLink RX1 18 yX2_ofSign, Cond.instanceMethod yX2_ofSign, Cond.selects RX2 yX2_ofSign yX2_ofSign, Cond.initialized RX2, Cond.code yX2_ofSign cX2_ofSign 4 (some .int), Cond.methodLink RX2 15 yX2_at, Cond.instanceMethod yX2_at, Cond.selects RX2 yX2_at yX2_at, Cond.code yX2_at cX2_at 3 (some .int), Cond.fieldLink RX2 9 "TypeFoundry$Sorts" "numbers" "[I", Cond.methodLink RX4 207 yX1_layTillOneLacks, Cond.instanceMethod yX1_layTillOneLacks]
def wsL_times_r3 : List Cond := [Cond.selects RX1 yX1_layTillOneLacks yX1_layTillOneLacks, Cond.code yX1_layTillOneLacks cX1_layTillOneLacks 4 (some .int), Cond.methodLink RX1 44 yX1_lay, Cond.instanceMethod yX1_lay, Cond.selects RX1 yX1_lay yX1_lay, Cond.code yX1_lay cX1_lay 5 (some .int), Cond.fieldLink RX1 15 "TypeFoundry$Setting" "taken" "[I", Cond.methodLink RX1 24 yJ7_fill_53178, Cond.static yJ7_fill_53178, Cond.initialized RJ7, Cond.code yJ7_fill_53178 cJ7_fill_53178 4 none, Cond.methodLink RX1 30 yX3_firstPlace, Cond.instanceMethod yX3_firstPlace, Cond.selects RX3 yX3_firstPlace yX3_firstPlace, Cond.code yX3_firstPlace cX3_firstPlace 1 (some .int), Cond.methodLink RX1 36 yX1_signFor, Cond.instanceMethod yX1_signFor, Cond.selects RX1 yX1_signFor yX1_signFor, Cond.code yX1_signFor cX1_signFor 4 (some .int), Cond.methodLink RX1 60 yX3_ligatureAt, Cond.instanceMethod yX3_ligatureAt, Cond.selects RX3 yX3_ligatureAt yX3_ligatureAt, Cond.code yX3_ligatureAt cX3_ligatureAt 2 (some .int), Cond.methodLink RX3 20 yX3_letterAt]
def wsL_times_r4 : List Cond := [Cond.instanceMethod yX3_letterAt, Cond.selects RX3 yX3_letterAt yX3_letterAt, Cond.code yX3_letterAt cX3_letterAt 2 (some .int), Cond.methodLink RX1 63 yX3_letterAt, Cond.static yX4_isLigature, Cond.code yX4_isLigature cX4_isLigature 1 (some .boolean), Cond.methodLink RX1 48 yX1_layTheSameAgain, Cond.instanceMethod yX1_layTheSameAgain, Cond.selects RX1 yX1_layTheSameAgain yX1_layTheSameAgain, Cond.code yX1_layTheSameAgain cX1_layTheSameAgain 3 (some .int), Cond.constant RX1 53 (2147483647), Cond.methodLink RX1 54 Lib.Math.min.name, Cond.static Lib.Math.min.name, Cond.initialized "java/lang/Math", Cond.code Lib.Math.min.name Lib.Math.min.code 2 (some .int)]
def wsL_times : List Cond := .codeWith yL_times cL_times 5 (some .int) [(0, 10, 13, 13), (0, 10, 17, 15)] :: ((wsL_times_r1 ++ (wsL_times_r2 ++ (wsL_times_r3 ++ wsL_times_r4))) ++ wsX40 ++ wsX00 ++ wsX30 ++ wsX10 ++ wsX20 ++ (vx_atS RX4 183 "java/lang/IndexOutOfBoundsException" ["java/lang/RuntimeException", "java/lang/Exception"]).filter goodWord ++ (vx_atS RX4 75 "java/lang/IllegalArgumentException" ["java/lang/RuntimeException", "java/lang/Exception"]).filter goodWord)
def wsL_law0_r1 : List Cond := [Cond.classLink RL 8 RX4, Cond.instantiable RX4 11, Cond.initialized RX4, Cond.classLink RL 76 RX5, Cond.instantiable RX5 17, Cond.initialized RX5, Cond.arrayClass .long, Cond.methodLink RL 75 yX4_init, Cond.instanceMethod yX4_init, Cond.code yX4_init cX4_init 1 none, Cond.methodLink RX4 1 objectInit, Cond.instanceMethod objectInit, Cond.code objectInit ⟨#[0xb1]⟩ 1 none, Cond.classLink RX4 7 RX2, Cond.instantiable RX2 1, Cond.initialized RX2, Cond.fieldLink RX4 10 "TypeFoundry" "stock" "LTypeFoundry$Sorts;", Cond.classLink RX4 16 RX0, Cond.fieldLink RX4 18 "TypeFoundry" "printers" "[LTypeFoundry$Printer;", Cond.fieldLink RX4 22 "TypeFoundry" "metal" "I", Cond.classLink RX4 26 RX3, Cond.instantiable RX3 2, Cond.initialized RX3, Cond.fieldLink RX4 29 "TypeFoundry" "spelled" "LTypeFoundry$Word;"]
def wsL_law0_r2 : List Cond := [Cond.classLink RX4 33 RX1, Cond.instantiable RX1 2, Cond.initialized RX1, Cond.fieldLink RX4 36 "TypeFoundry" "setting" "LTypeFoundry$Setting;", Cond.instanceMethod yX2_init, Cond.code yX2_init cX2_init 1 none, Cond.methodLink RX2 3 objectInit, Cond.arrayClass .int, Cond.fieldLink RX2 9 "TypeFoundry$Sorts" "numbers" "[I", Cond.instanceMethod yX3_init, Cond.code yX3_init cX3_init 1 none, Cond.methodLink RX3 3 objectInit, Cond.fieldLink RX3 9 "TypeFoundry$Word" "letters" "[I", Cond.fieldLink RX3 15 "TypeFoundry$Word" "firstPlace" "I", Cond.instanceMethod yX1_init, Cond.code yX1_init cX1_init 1 none, Cond.methodLink RX1 3 objectInit, Cond.fieldLink RX1 9 "TypeFoundry$Setting" "left" "[I", Cond.fieldLink RX1 15 "TypeFoundry$Setting" "taken" "[I", Cond.methodLink RL 78 yX5_init, Cond.instanceMethod yX5_init, Cond.code yX5_init cX5_init 1 none, Cond.methodLink RX5 1 objectInit, Cond.fieldLink RX5 7 "TypeFoundryModel" "metal" "I"]
def wsL_law0_r3 : List Cond := [Cond.fieldLink RX5 13 "TypeFoundryModel" "store" "[I", Cond.fieldLink RX5 17 "TypeFoundryModel" "own" "[I", Cond.fieldLink RX5 20 "TypeFoundryModel" "owed" "[I", Cond.fieldLink RX5 23 "TypeFoundryModel" "copies" "[I", Cond.fieldLink RX5 26 "TypeFoundryModel" "words" "[I", Cond.fieldLink RX5 29 "TypeFoundryModel" "letter" "[I", Cond.fieldLink RX5 32 "TypeFoundryModel" "takes" "[I", Cond.fieldLink RX5 35 "TypeFoundryModel" "left" "[I", Cond.methodLink RL 79 yL_cast, Cond.static yL_cast, Cond.initialized RL, Cond.codeWith yL_cast cL_cast 5 (some .int) [(0, 10, 13, 13), (0, 10, 17, 15), (0, 10, 21, 17)], Cond.classLink RL 13 "java/lang/IndexOutOfBoundsException", Cond.classLink RL 15 "java/lang/IllegalArgumentException", Cond.classLink RL 17 "java/lang/IllegalStateException", Cond.methodLink RL 7 yX4_cast, Cond.instanceMethod yX4_cast, Cond.selects RX4 yX4_cast yX4_cast, Cond.code yX4_cast cX4_cast 4 (some .int), Cond.classLink RX4 51 "java/lang/IllegalStateException", Cond.initialized "java/lang/IllegalStateException", Cond.fieldLink RX4 68 "TypeFoundry" "everCast" "I", Cond.methodLink RX4 40 yX4_needSign, Cond.static yX4_needSign]
def wsL_law0_r4 : List Cond := [Cond.code yX4_needSign cX4_needSign 1 none, Cond.classLink RX4 179 "java/lang/IndexOutOfBoundsException", Cond.initialized "java/lang/IndexOutOfBoundsException", Cond.methodLink RX4 44 yX4_needMany, Cond.static yX4_needMany, Cond.code yX4_needMany cX4_needMany 1 none, Cond.classLink RX4 71 "java/lang/IllegalArgumentException", Cond.initialized "java/lang/IllegalArgumentException", Cond.methodLink RX4 47 yX4_isLigature, Cond.static yX4_isLigature, Cond.code yX4_isLigature cX4_isLigature 1 (some .boolean), Cond.methodLink RX4 58 yX2_ofSign, Cond.instanceMethod yX2_ofSign, Cond.selects RX2 yX2_ofSign yX2_ofSign, Cond.code yX2_ofSign cX2_ofSign 4 (some .int), Cond.methodLink RX2 15 yX2_at, Cond.instanceMethod yX2_at, Cond.selects RX2 yX2_at yX2_at, Cond.code yX2_at cX2_at 3 (some .int), Cond.methodLink RX4 64 yX2_change, Cond.instanceMethod yX2_change, Cond.selects RX2 yX2_change yX2_change, Cond.code yX2_change cX2_change 4 none, Cond.methodLink RL 84 yX5_cast]
def wsL_law0_r5 : List Cond := [Cond.instanceMethod yX5_cast, Cond.selects RX5 yX5_cast yX5_cast, Cond.code yX5_cast cX5_cast 3 (some .int), Cond.fieldLink RX5 38 "TypeFoundryModel" "thrown" "I", Cond.fieldLink RX5 68 "TypeFoundryModel" "made" "I", Cond.methodLink RX5 54 yX5_isSign, Cond.static yX5_isSign, Cond.code yX5_isSign cX5_isSign 1 (some .boolean), Cond.methodLink RX5 44 yX5_isIn, Cond.static yX5_isIn, Cond.code yX5_isIn cX5_isIn 3 (some .boolean), Cond.methodLink RX5 58 yX5_no, Cond.instanceMethod yX5_no, Cond.selects RX5 yX5_no yX5_no, Cond.code yX5_no cX5_no 2 (some .int), Cond.methodLink RX5 62 yX5_price, Cond.static yX5_price, Cond.code yX5_price cX5_price 1 (some .int), Cond.methodLink RX5 65 yX5_many, Cond.instanceMethod yX5_many, Cond.selects RX5 yX5_many yX5_many, Cond.code yX5_many cX5_many 5 (some .int), Cond.methodLink RL 85 yX5_thrown, Cond.instanceMethod yX5_thrown]
def wsL_law0_r6 : List Cond := [Cond.selects RX5 yX5_thrown yX5_thrown, Cond.code yX5_thrown cX5_thrown 1 (some .int), Cond.methodLink RL 89 yL_melt, Cond.static yL_melt, Cond.codeWith yL_melt cL_melt 4 (some .int) [(0, 9, 12, 15), (0, 9, 15, 17)], Cond.methodLink RL 19 yX4_melt, Cond.instanceMethod yX4_melt, Cond.selects RX4 yX4_melt yX4_melt, Cond.code yX4_melt cX4_melt 4 (some .int), Cond.fieldLink RX4 84 "TypeFoundry" "everMelted" "I", Cond.methodLink RX4 76 yX2_metalFrom, Cond.instanceMethod yX2_metalFrom, Cond.selects RX2 yX2_metalFrom yX2_metalFrom, Cond.code yX2_metalFrom cX2_metalFrom 5 (some .int), Cond.methodLink RX4 81 yX2_dropFrom, Cond.instanceMethod yX2_dropFrom, Cond.selects RX2 yX2_dropFrom yX2_dropFrom, Cond.code yX2_dropFrom cX2_dropFrom 5 (some .int), Cond.methodLink RX2 28 yX2_empty, Cond.instanceMethod yX2_empty, Cond.selects RX2 yX2_empty yX2_empty, Cond.code yX2_empty cX2_empty 4 (some .int), Cond.methodLink RX2 35 yX2_change, Cond.methodLink RL 92 yX5_melt]
def wsL_law0_r7 : List Cond := [Cond.instanceMethod yX5_melt, Cond.selects RX5 yX5_melt yX5_melt, Cond.code yX5_melt cX5_melt 5 (some .int), Cond.fieldLink RX5 71 "TypeFoundryModel" "melted" "I", Cond.methodLink RL 93 yL_buy, Cond.static yL_buy, Cond.codeWith yL_buy cL_buy 4 (some .int) [(0, 9, 12, 15), (0, 9, 15, 17)], Cond.methodLink RL 23 yX4_buy, Cond.instanceMethod yX4_buy, Cond.selects RX4 yX4_buy yX4_buy, Cond.code yX4_buy cX4_buy 2 (some .int), Cond.methodLink RL 95 yX5_buy, Cond.instanceMethod yX5_buy, Cond.selects RX5 yX5_buy yX5_buy, Cond.code yX5_buy cX5_buy 2 (some .int), Cond.methodLink RL 96 yL_come, Cond.static yL_come, Cond.codeWith yL_come cL_come 4 (some .int) [(0, 9, 12, 15), (0, 9, 15, 17)], Cond.methodLink RL 26 yX4_come, Cond.instanceMethod yX4_come, Cond.selects RX4 yX4_come yX4_come, Cond.code yX4_come cX4_come 3 (some .int), Cond.fieldLink RX4 91 "TypeFoundry" "printersThere" "I", Cond.instantiable RX0 6]
def wsL_law0_r8 : List Cond := [Cond.initialized RX0, Cond.methodLink RX4 96 yX0_init, Cond.instanceMethod yX0_init, Cond.code yX0_init cX0_init 2 none, Cond.methodLink RX0 3 objectInit, Cond.classLink RX0 9 RX2, Cond.fieldLink RX0 12 "TypeFoundry$Printer" "tray" "LTypeFoundry$Sorts;", Cond.fieldLink RX0 18 "TypeFoundry$Printer" "form" "LTypeFoundry$Sorts;", Cond.fieldLink RX0 21 "TypeFoundry$Printer" "coins" "I", Cond.methodLink RL 98 yX5_come, Cond.instanceMethod yX5_come, Cond.selects RX5 yX5_come yX5_come, Cond.code yX5_come cX5_come 2 (some .int), Cond.fieldLink RX5 41 "TypeFoundryModel" "printers" "I", Cond.methodLink RL 99 yL_rent, Cond.static yL_rent, Cond.codeWith yL_rent cL_rent 6 (some .int) [(0, 12, 15, 13), (0, 12, 19, 15), (0, 12, 23, 17)], Cond.methodLink RL 29 yX4_rent, Cond.instanceMethod yX4_rent, Cond.selects RX4 yX4_rent yX4_rent, Cond.code yX4_rent cX4_rent 5 (some .int), Cond.methodLink RX4 98 yX4_needPrinter, Cond.instanceMethod yX4_needPrinter, Cond.selects RX4 yX4_needPrinter yX4_needPrinter]
def wsL_law0_r9 : List Cond := [Cond.code yX4_needPrinter cX4_needPrinter 3 (some (.object "TypeFoundry$Printer")), Cond.methodLink RX4 107 yX2_moveLeastWorn, Cond.instanceMethod yX2_moveLeastWorn, Cond.selects RX2 yX2_moveLeastWorn yX2_moveLeastWorn, Cond.code yX2_moveLeastWorn cX2_moveLeastWorn 8 (some .int), Cond.methodLink RX2 31 yX2_moveAt, Cond.instanceMethod yX2_moveAt, Cond.selects RX2 yX2_moveAt yX2_moveAt, Cond.code yX2_moveAt cX2_moveAt 6 (some .int), Cond.methodLink RX2 41 Lib.Math.min.name, Cond.static Lib.Math.min.name, Cond.initialized "java/lang/Math", Cond.code Lib.Math.min.name Lib.Math.min.code 2 (some .int), Cond.methodLink RL 102 yX5_rent, Cond.instanceMethod yX5_rent, Cond.selects RX5 yX5_rent yX5_rent, Cond.code yX5_rent cX5_rent 4 (some .int), Cond.methodLink RX5 74 yX5_isPrinter, Cond.instanceMethod yX5_isPrinter, Cond.selects RX5 yX5_isPrinter yX5_isPrinter, Cond.code yX5_isPrinter cX5_isPrinter 2 (some .boolean), Cond.methodLink RX5 77 yX5_caseOf, Cond.static yX5_caseOf, Cond.code yX5_caseOf cX5_caseOf 1 (some .int)]
def wsL_law0_r10 : List Cond := [Cond.methodLink RX5 80 yX5_move, Cond.instanceMethod yX5_move, Cond.selects RX5 yX5_move yX5_move, Cond.code yX5_move cX5_move 11 (some .int), Cond.methodLink RX5 48 Lib.Math.min.name, Cond.methodLink RL 103 yL_giveBack, Cond.static yL_giveBack, Cond.codeWith yL_giveBack cL_giveBack 6 (some .int) [(0, 12, 15, 13), (0, 12, 19, 15), (0, 12, 23, 17)], Cond.methodLink RL 33 yX4_giveBack, Cond.instanceMethod yX4_giveBack, Cond.selects RX4 yX4_giveBack yX4_giveBack, Cond.code yX4_giveBack cX4_giveBack 5 (some .int), Cond.methodLink RX4 113 yX2_moveMostWorn, Cond.instanceMethod yX2_moveMostWorn, Cond.selects RX2 yX2_moveMostWorn yX2_moveMostWorn, Cond.code yX2_moveMostWorn cX2_moveMostWorn 8 (some .int), Cond.methodLink RL 105 yX5_giveBack, Cond.instanceMethod yX5_giveBack, Cond.selects RX5 yX5_giveBack yX5_giveBack, Cond.code yX5_giveBack cX5_giveBack 4 (some .int), Cond.methodLink RL 106 yL_pay, Cond.static yL_pay, Cond.codeWith yL_pay cL_pay 4 (some .int) [(0, 9, 12, 13)], Cond.methodLink RL 36 yX4_pay]
def wsL_law0_r11 : List Cond := [Cond.instanceMethod yX4_pay, Cond.selects RX4 yX4_pay yX4_pay, Cond.code yX4_pay cX4_pay 4 (some .int), Cond.methodLink RX4 122 Lib.Math.min.name, Cond.fieldLink RX4 128 "TypeFoundry" "coins" "I", Cond.methodLink RL 108 yX5_pay, Cond.instanceMethod yX5_pay, Cond.selects RX5 yX5_pay yX5_pay, Cond.code yX5_pay cX5_pay 3 (some .int), Cond.fieldLink RX5 84 "TypeFoundryModel" "coins" "I", Cond.methodLink RL 109 yL_set, Cond.static yL_set, Cond.codeWith yL_set cL_set 5 (some .int) [(0, 10, 13, 13), (0, 10, 17, 15), (0, 10, 21, 17)], Cond.methodLink RL 39 yX4_set, Cond.instanceMethod yX4_set, Cond.selects RX4 yX4_set yX4_set, Cond.code yX4_set cX4_set 7 (some .int), Cond.methodLink RX4 129 yX4_needWord, Cond.instanceMethod yX4_needWord, Cond.selects RX4 yX4_needWord yX4_needWord, Cond.code yX4_needWord cX4_needWord 2 (some (.object "TypeFoundry$Word")), Cond.methodLink RX4 228 yX3_spell, Cond.instanceMethod yX3_spell, Cond.selects RX3 yX3_spell yX3_spell]
def wsL_law0_r12 : List Cond := [Cond.code yX3_spell cX3_spell 5 (some .boolean), Cond.constant RX3 19 (387420488), Cond.methodLink RX4 133 yX1_fillFrom, Cond.instanceMethod yX1_fillFrom, Cond.selects RX1 yX1_fillFrom yX1_fillFrom, Cond.code yX1_fillFrom cX1_fillFrom 3 none, Cond.methodLink RX1 18 yX2_ofSign, Cond.methodLink RX4 137 yX1_lay, Cond.instanceMethod yX1_lay, Cond.selects RX1 yX1_lay yX1_lay, Cond.code yX1_lay cX1_lay 5 (some .int), Cond.methodLink RX1 24 yJ7_fill_53178, Cond.static yJ7_fill_53178, Cond.initialized RJ7, Cond.code yJ7_fill_53178 cJ7_fill_53178 4 none, Cond.methodLink RX1 30 yX3_firstPlace, Cond.instanceMethod yX3_firstPlace, Cond.selects RX3 yX3_firstPlace yX3_firstPlace, Cond.code yX3_firstPlace cX3_firstPlace 1 (some .int), Cond.methodLink RX1 36 yX1_signFor, Cond.instanceMethod yX1_signFor, Cond.selects RX1 yX1_signFor yX1_signFor, Cond.code yX1_signFor cX1_signFor 4 (some .int), Cond.methodLink RX1 60 yX3_ligatureAt]
def wsL_law0_r13 : List Cond := [Cond.instanceMethod yX3_ligatureAt, Cond.selects RX3 yX3_ligatureAt yX3_ligatureAt, Cond.code yX3_ligatureAt cX3_ligatureAt 2 (some .int), Cond.methodLink RX3 20 yX3_letterAt, Cond.instanceMethod yX3_letterAt, Cond.selects RX3 yX3_letterAt yX3_letterAt, Cond.code yX3_letterAt cX3_letterAt 2 (some .int), Cond.methodLink RX1 63 yX3_letterAt, Cond.methodLink RX4 146 yX2_inAll, Cond.instanceMethod yX2_inAll, Cond.selects RX2 yX2_inAll yX2_inAll, Cond.code yX2_inAll cX2_inAll 3 (some .int), Cond.methodLink RX4 152 yX1_taken, Cond.instanceMethod yX1_taken, Cond.selects RX1 yX1_taken yX1_taken, Cond.code yX1_taken cX1_taken 2 (some .int), Cond.methodLink RL 111 yX5_set, Cond.instanceMethod yX5_set, Cond.selects RX5 yX5_set yX5_set, Cond.code yX5_set cX5_set 5 (some .int), Cond.methodLink RX5 99 yX5_isWord, Cond.instanceMethod yX5_isWord, Cond.selects RX5 yX5_isWord yX5_isWord, Cond.code yX5_isWord cX5_isWord 5 (some .boolean)]
def wsL_law0_r14 : List Cond := [Cond.fieldLink RX5 87 "TypeFoundryModel" "letters" "I", Cond.methodLink RX5 102 yX5_look, Cond.instanceMethod yX5_look, Cond.selects RX5 yX5_look yX5_look, Cond.code yX5_look cX5_look 3 none, Cond.methodLink RX5 106 yX5_compose, Cond.instanceMethod yX5_compose, Cond.selects RX5 yX5_compose yX5_compose, Cond.code yX5_compose cX5_compose 4 (some .int), Cond.methodLink RX5 90 yJ7_fill_53178, Cond.methodLink RX5 96 yX5_ligature, Cond.instanceMethod yX5_ligature, Cond.selects RX5 yX5_ligature yX5_ligature, Cond.code yX5_ligature cX5_ligature 3 (some .int), Cond.methodLink RX5 110 yX5_formOf, Cond.static yX5_formOf, Cond.code yX5_formOf cX5_formOf 1 (some .int), Cond.methodLink RX5 113 yX5_all, Cond.instanceMethod yX5_all, Cond.selects RX5 yX5_all yX5_all, Cond.code yX5_all cX5_all 4 (some .int), Cond.methodLink RL 112 yL_print, Cond.static yL_print, Cond.codeWith yL_print cL_print 5 (some .int) [(0, 10, 13, 13), (0, 10, 17, 15), (0, 10, 21, 17)]]
def wsL_law0_r15 : List Cond := [Cond.methodLink RL 42 yX4_print, Cond.instanceMethod yX4_print, Cond.selects RX4 yX4_print yX4_print, Cond.code yX4_print cX4_print 5 (some .int), Cond.fieldLink RX4 168 "TypeFoundry" "everBroken" "I", Cond.methodLink RX4 162 yX2_wearBy, Cond.instanceMethod yX2_wearBy, Cond.selects RX2 yX2_wearBy yX2_wearBy, Cond.code yX2_wearBy cX2_wearBy 6 (some .int), Cond.methodLink RL 114 yX5_print, Cond.instanceMethod yX5_print, Cond.selects RX5 yX5_print yX5_print, Cond.code yX5_print cX5_print 8 (some .int), Cond.fieldLink RX5 116 "TypeFoundryModel" "broken" "I", Cond.methodLink RL 115 yL_distribute, Cond.static yL_distribute, Cond.codeWith yL_distribute cL_distribute 4 (some .int) [(0, 9, 12, 13)], Cond.methodLink RL 45 yX4_distribute, Cond.instanceMethod yX4_distribute, Cond.selects RX4 yX4_distribute yX4_distribute, Cond.code yX4_distribute cX4_distribute 5 (some .int), Cond.methodLink RL 117 yX5_distribute, Cond.instanceMethod yX5_distribute, Cond.selects RX5 yX5_distribute yX5_distribute]
def wsL_law0_r16 : List Cond := [Cond.code yX5_distribute cX5_distribute 4 (some .int), Cond.methodLink RL 118 yL_pass, Cond.static yL_pass, Cond.codeWith yL_pass cL_pass 4 (some .int) [(0, 9, 12, 15)], Cond.methodLink RL 48 yX4_pass, Cond.instanceMethod yX4_pass, Cond.selects RX4 yX4_pass yX4_pass, Cond.code yX4_pass cX4_pass 5 (some .int), Cond.fieldLink RX4 173 "TypeFoundry" "day" "I", Cond.methodLink RX4 176 yX0_rentOfADay, Cond.instanceMethod yX0_rentOfADay, Cond.selects RX0 yX0_rentOfADay yX0_rentOfADay, Cond.code yX0_rentOfADay cX0_rentOfADay 1 (some .int), Cond.methodLink RX0 25 yX2_inAll, Cond.methodLink RL 120 yX5_pass, Cond.instanceMethod yX5_pass, Cond.selects RX5 yX5_pass yX5_pass, Cond.code yX5_pass cX5_pass 4 (some .int), Cond.fieldLink RX5 119 "TypeFoundryModel" "day" "I", Cond.methodLink RL 121 yL_sorts, Cond.static yL_sorts, Cond.codeWith yL_sorts cL_sorts 6 (some .int) [(0, 12, 15, 13)], Cond.methodLink RL 51 yX4_sorts, Cond.instanceMethod yX4_sorts]
def wsL_law0_r17 : List Cond := [Cond.selects RX4 yX4_sorts yX4_sorts, Cond.code yX4_sorts cX4_sorts 5 (some .int), Cond.methodLink RX4 184 yX2_at, Cond.methodLink RL 123 yX5_sorts, Cond.instanceMethod yX5_sorts, Cond.selects RX5 yX5_sorts yX5_sorts, Cond.code yX5_sorts cX5_sorts 5 (some .int), Cond.methodLink RL 124 yL_printer, Cond.static yL_printer, Cond.codeWith yL_printer cL_printer 5 (some .int) [(0, 10, 13, 13)], Cond.methodLink RL 54 yX4_printer, Cond.instanceMethod yX4_printer, Cond.selects RX4 yX4_printer yX4_printer, Cond.code yX4_printer cX4_printer 4 (some .int), Cond.methodLink RX4 189 yX0_number, Cond.instanceMethod yX0_number, Cond.selects RX0 yX0_number yX0_number, Cond.code yX0_number cX0_number 2 (some .int), Cond.fieldLink RX0 29 "TypeFoundry$Printer" "owed" "I", Cond.fieldLink RX0 35 "TypeFoundry$Printer" "copies" "I", Cond.fieldLink RX0 38 "TypeFoundry$Printer" "words" "I", Cond.methodLink RX0 32 yX2_wearInAll, Cond.instanceMethod yX2_wearInAll, Cond.selects RX2 yX2_wearInAll yX2_wearInAll]
def wsL_law0_r18 : List Cond := [Cond.code yX2_wearInAll cX2_wearInAll 3 (some .int), Cond.methodLink RL 126 yX5_printer, Cond.instanceMethod yX5_printer, Cond.selects RX5 yX5_printer yX5_printer, Cond.code yX5_printer cX5_printer 3 (some .int), Cond.methodLink RX5 125 yX5_told, Cond.instanceMethod yX5_told, Cond.selects RX5 yX5_told yX5_told, Cond.code yX5_told cX5_told 4 (some .int), Cond.methodLink RX5 122 yX5_worn, Cond.instanceMethod yX5_worn, Cond.selects RX5 yX5_worn yX5_worn, Cond.code yX5_worn cX5_worn 4 (some .int), Cond.methodLink RL 127 yL_count, Cond.static yL_count, Cond.codeWith yL_count cL_count 4 (some .int) [(0, 9, 12, 13)], Cond.methodLink RL 57 yX4_count, Cond.instanceMethod yX4_count, Cond.selects RX4 yX4_count yX4_count, Cond.code yX4_count cX4_count 2 (some .int), Cond.methodLink RX4 194 yX4_number, Cond.instanceMethod yX4_number, Cond.selects RX4 yX4_number yX4_number, Cond.code yX4_number cX4_number 2 (some .int)]
def wsL_law0_r19 : List Cond := [Cond.methodLink RL 129 yX5_count, Cond.instanceMethod yX5_count, Cond.selects RX5 yX5_count yX5_count, Cond.code yX5_count cX5_count 2 (some .int), Cond.methodLink RX5 128 yX5_counted, Cond.instanceMethod yX5_counted, Cond.selects RX5 yX5_counted yX5_counted, Cond.code yX5_counted cX5_counted 3 (some .int), Cond.methodLink RL 130 yL_takes, Cond.static yL_takes, Cond.codeWith yL_takes cL_takes 5 (some .int) [(0, 10, 13, 13), (0, 10, 17, 15)], Cond.methodLink RL 60 yX4_takes, Cond.instanceMethod yX4_takes, Cond.selects RX4 yX4_takes yX4_takes, Cond.code yX4_takes cX4_takes 5 (some .int), Cond.methodLink RL 132 yX5_takes, Cond.instanceMethod yX5_takes, Cond.selects RX5 yX5_takes yX5_takes, Cond.code yX5_takes cX5_takes 3 (some .int), Cond.methodLink RL 133 yL_lacks, Cond.static yL_lacks, Cond.codeWith yL_lacks cL_lacks 5 (some .int) [(0, 10, 13, 13), (0, 10, 17, 15)], Cond.methodLink RL 63 yX4_lacks, Cond.instanceMethod yX4_lacks]
def wsL_law0_r20 : List Cond := [Cond.selects RX4 yX4_lacks yX4_lacks, Cond.code yX4_lacks cX4_lacks 9 (some .int), Cond.methodLink RX4 195 yX3_howOften, Cond.instanceMethod yX3_howOften, Cond.selects RX3 yX3_howOften yX3_howOften, Cond.code yX3_howOften cX3_howOften 4 (some .int), Cond.methodLink RL 135 yX5_lacks, Cond.instanceMethod yX5_lacks, Cond.selects RX5 yX5_lacks yX5_lacks, Cond.code yX5_lacks cX5_lacks 8 (some .int), Cond.methodLink RL 136 yL_bears, Cond.static yL_bears, Cond.codeWith yL_bears cL_bears 4 (some .int) [(0, 9, 12, 13)], Cond.methodLink RL 66 yX4_bears, Cond.instanceMethod yX4_bears, Cond.selects RX4 yX4_bears yX4_bears, Cond.code yX4_bears cX4_bears 4 (some .int), Cond.methodLink RX4 198 yX2_greatestWear, Cond.instanceMethod yX2_greatestWear, Cond.selects RX2 yX2_greatestWear yX2_greatestWear, Cond.code yX2_greatestWear cX2_greatestWear 3 (some .int), Cond.methodLink RX2 19 Lib.Math.max.name, Cond.static Lib.Math.max.name, Cond.code Lib.Math.max.name Lib.Math.max.code 2 (some .int)]
def wsL_law0_r21 : List Cond := [Cond.methodLink RL 138 yX5_bears, Cond.instanceMethod yX5_bears, Cond.selects RX5 yX5_bears yX5_bears, Cond.code yX5_bears cX5_bears 4 (some .int), Cond.methodLink RX5 131 Lib.Math.max.name, Cond.methodLink RL 139 yL_saves, Cond.static yL_saves, Cond.codeWith yL_saves cL_saves 5 (some .int) [(0, 10, 13, 15)], Cond.methodLink RL 69 yX4_saves, Cond.instanceMethod yX4_saves, Cond.selects RX4 yX4_saves yX4_saves, Cond.code yX4_saves cX4_saves 7 (some .int), Cond.methodLink RX4 201 yX1_fillWithoutEnd, Cond.instanceMethod yX1_fillWithoutEnd, Cond.selects RX1 yX1_fillWithoutEnd yX1_fillWithoutEnd, Cond.code yX1_fillWithoutEnd cX1_fillWithoutEnd 1 none, Cond.methodLink RX4 204 yX1_takenOfPlenty, Cond.instanceMethod yX1_takenOfPlenty, Cond.selects RX1 yX1_takenOfPlenty yX1_takenOfPlenty, Cond.code yX1_takenOfPlenty cX1_takenOfPlenty 2 (some .int), Cond.methodLink RL 141 yX5_saves, Cond.instanceMethod yX5_saves, Cond.selects RX5 yX5_saves yX5_saves, Cond.code yX5_saves cX5_saves 6 (some .int)]
def wsL_law0_r22 : List Cond := [Cond.methodLink RL 142 yL_times, Cond.static yL_times, Cond.codeWith yL_times cL_times 5 (some .int) [(0, 10, 13, 13), (0, 10, 17, 15)], Cond.methodLink RL 72 yX4_times, Cond.instanceMethod yX4_times, Cond.selects RX4 yX4_times yX4_times, Cond.code yX4_times cX4_times 5 (some .int), Cond.methodLink RX4 207 yX1_layTillOneLacks, Cond.instanceMethod yX1_layTillOneLacks, Cond.selects RX1 yX1_layTillOneLacks yX1_layTillOneLacks, Cond.code yX1_layTillOneLacks cX1_layTillOneLacks 4 (some .int), Cond.methodLink RX1 44 yX1_lay, Cond.methodLink RX1 48 yX1_layTheSameAgain, Cond.instanceMethod yX1_layTheSameAgain, Cond.selects RX1 yX1_layTheSameAgain yX1_layTheSameAgain, Cond.code yX1_layTheSameAgain cX1_layTheSameAgain 3 (some .int), Cond.constant RX1 53 (2147483647), Cond.methodLink RX1 54 Lib.Math.min.name, Cond.methodLink RL 144 yX5_times, Cond.instanceMethod yX5_times, Cond.selects RX5 yX5_times yX5_times, Cond.code yX5_times cX5_times 4 (some .int), Cond.methodLink RL 145 yX4_mean, Cond.instanceMethod yX4_mean]
def wsL_law0_r23 : List Cond := [Cond.selects RX4 yX4_mean yX4_mean, Cond.code yX4_mean cX4_mean 2 (some .double), Cond.methodLink RX4 210 yX2_wearInAll, Cond.methodLink RL 149 yX5_mean, Cond.instanceMethod yX5_mean, Cond.selects RX5 yX5_mean yX5_mean, Cond.code yX5_mean cX5_mean 2 (some .double), Cond.methodLink RL 150 yX4_digest, Cond.instanceMethod yX4_digest, Cond.selects RX4 yX4_digest yX4_digest, Cond.code yX4_digest cX4_digest 5 (some .long), Cond.constantLong RX4 213 (751), Cond.constantLong RX4 215 (31), Cond.methodLink RX4 217 yX2_digestOnto, Cond.instanceMethod yX2_digestOnto, Cond.selects RX2 yX2_digestOnto yX2_digestOnto, Cond.code yX2_digestOnto cX2_digestOnto 6 (some .long), Cond.constantLong RX2 39 (31), Cond.methodLink RX4 221 yX0_digestOnto, Cond.instanceMethod yX0_digestOnto, Cond.selects RX0 yX0_digestOnto yX0_digestOnto, Cond.code yX0_digestOnto cX0_digestOnto 6 (some .long), Cond.constantLong RX0 41 (31), Cond.methodLink RX0 43 yX0_number]
def wsL_law0_r24 : List Cond := [Cond.methodLink RL 154 yX5_digest, Cond.instanceMethod yX5_digest, Cond.selects RX5 yX5_digest yX5_digest, Cond.code yX5_digest cX5_digest 5 (some .long), Cond.constantLong RX5 134 (751), Cond.constantLong RX5 136 (31)]
def wsL_law0 : List Cond := (wsL_law0_r1 ++ (wsL_law0_r2 ++ (wsL_law0_r3 ++ (wsL_law0_r4 ++ (wsL_law0_r5 ++ (wsL_law0_r6 ++ (wsL_law0_r7 ++ (wsL_law0_r8 ++ (wsL_law0_r9 ++ (wsL_law0_r10 ++ (wsL_law0_r11 ++ (wsL_law0_r12 ++ (wsL_law0_r13 ++ (wsL_law0_r14 ++ (wsL_law0_r15 ++ (wsL_law0_r16 ++ (wsL_law0_r17 ++ (wsL_law0_r18 ++ (wsL_law0_r19 ++ (wsL_law0_r20 ++ (wsL_law0_r21 ++ (wsL_law0_r22 ++ (wsL_law0_r23 ++ wsL_law0_r24))))))))))))))))))))))) ++ wsX40 ++ wsX50 ++ wsX20 ++ wsX30 ++ wsX10 ++ wsX00 ++ ([] : List Cond)
def wsL_law : List Cond := wsL_law0 ++ (vx_atS RX4 55 "java/lang/IllegalStateException" ["java/lang/RuntimeException", "java/lang/Exception"]).filter goodWord ++ (vx_atS RX4 183 "java/lang/IndexOutOfBoundsException" ["java/lang/RuntimeException", "java/lang/Exception"]).filter goodWord ++ (vx_atS RX4 75 "java/lang/IllegalArgumentException" ["java/lang/RuntimeException", "java/lang/Exception"]).filter goodWord
end
section
set_option maxRecDepth 20000 in
theorem in0_wsL_law0_r1 : ∀ w ∈ wsL_law0_r1, w ∈ lw_tbl := fun w h => (goodIn_p wsL_law0_r1 [39, 42] (by decide +kernel) (by decide +kernel) w h).1
set_option maxRecDepth 20000 in
theorem in0_wsL_law0_r2 : ∀ w ∈ wsL_law0_r2, w ∈ lw_tbl := fun w h => (goodIn_p wsL_law0_r2 [47, 60, 73, 582] (by decide +kernel) (by decide +kernel) w h).1
set_option maxRecDepth 20000 in
theorem in0_wsL_law0_r3 : ∀ w ∈ wsL_law0_r3, w ∈ lw_tbl := fun w h => (goodIn_p wsL_law0_r3 [163] (by decide +kernel) (by decide +kernel) w h).1
set_option maxRecDepth 20000 in
theorem in0_wsL_law0_r4 : ∀ w ∈ wsL_law0_r4, w ∈ lw_tbl := fun w h => (goodIn_p wsL_law0_r4 [166, 237, 256, 276, 280, 285] (by decide +kernel) (by decide +kernel) w h).1
set_option maxRecDepth 20000 in
theorem in0_wsL_law0_r5 : ∀ w ∈ wsL_law0_r5, w ∈ lw_tbl := fun w h => (goodIn_p wsL_law0_r5 [643, 646, 649, 653, 656, 660] (by decide +kernel) (by decide +kernel) w h).1
set_option maxRecDepth 20000 in
theorem in0_wsL_law0_r6 : ∀ w ∈ wsL_law0_r6, w ∈ lw_tbl := fun w h => (goodIn_p wsL_law0_r6 [639, 292, 297, 303, 307] (by decide +kernel) (by decide +kernel) w h).1
set_option maxRecDepth 20000 in
theorem in0_wsL_law0_r7 : ∀ w ∈ wsL_law0_r7, w ∈ lw_tbl := fun w h => (goodIn_p wsL_law0_r7 [664, 315, 668, 323] (by decide +kernel) (by decide +kernel) w h).1
set_option maxRecDepth 20000 in
theorem in0_wsL_law0_r8 : ∀ w ∈ wsL_law0_r8, w ∈ lw_tbl := fun w h => (goodIn_p wsL_law0_r8 [329, 672, 364] (by decide +kernel) (by decide +kernel) w h).1
set_option maxRecDepth 20000 in
theorem in0_wsL_law0_r9 : ∀ w ∈ wsL_law0_r9, w ∈ lw_tbl := fun w h => (goodIn_p wsL_law0_r9 [368, 374, 378, 381, 676, 680, 683] (by decide +kernel) (by decide +kernel) w h).1
set_option maxRecDepth 20000 in
theorem in0_wsL_law0_r10 : ∀ w ∈ wsL_law0_r10, w ∈ lw_tbl := fun w h => (goodIn_p wsL_law0_r10 [687, 388, 393, 692] (by decide +kernel) (by decide +kernel) w h).1
set_option maxRecDepth 20000 in
theorem in0_wsL_law0_r11 : ∀ w ∈ wsL_law0_r11, w ∈ lw_tbl := fun w h => (goodIn_p wsL_law0_r11 [400, 696, 408, 412] (by decide +kernel) (by decide +kernel) w h).1
set_option maxRecDepth 20000 in
theorem in0_wsL_law0_r12 : ∀ w ∈ wsL_law0_r12, w ∈ lw_tbl := fun w h => (goodIn_p wsL_law0_r12 [416, 422, 427, 430, 434, 438] (by decide +kernel) (by decide +kernel) w h).1
set_option maxRecDepth 20000 in
theorem in0_wsL_law0_r13 : ∀ w ∈ wsL_law0_r13, w ∈ lw_tbl := fun w h => (goodIn_p wsL_law0_r13 [442, 446, 123, 454, 700, 704] (by decide +kernel) (by decide +kernel) w h).1
set_option maxRecDepth 20000 in
theorem in0_wsL_law0_r14 : ∀ w ∈ wsL_law0_r14, w ∈ lw_tbl := fun w h => (goodIn_p wsL_law0_r14 [708, 712, 717, 720, 724] (by decide +kernel) (by decide +kernel) w h).1
set_option maxRecDepth 20000 in
theorem in0_wsL_law0_r15 : ∀ w ∈ wsL_law0_r15, w ∈ lw_tbl := fun w h => (goodIn_p wsL_law0_r15 [461, 467, 728, 474] (by decide +kernel) (by decide +kernel) w h).1
end
section
set_option maxRecDepth 20000 in
theorem in0_wsL_law0_r16 : ∀ w ∈ wsL_law0_r16, w ∈ lw_tbl := fun w h => (goodIn_p wsL_law0_r16 [732, 481, 486, 736] (by decide +kernel) (by decide +kernel) w h).1
set_option maxRecDepth 20000 in
theorem in0_wsL_law0_r17 : ∀ w ∈ wsL_law0_r17, w ∈ lw_tbl := fun w h => (goodIn_p wsL_law0_r17 [493, 740, 502, 151] (by decide +kernel) (by decide +kernel) w h).1
set_option maxRecDepth 20000 in
theorem in0_wsL_law0_r18 : ∀ w ∈ wsL_law0_r18, w ∈ lw_tbl := fun w h => (goodIn_p wsL_law0_r18 [127, 744, 748, 752, 511, 137] (by decide +kernel) (by decide +kernel) w h).1
set_option maxRecDepth 20000 in
theorem in0_wsL_law0_r19 : ∀ w ∈ wsL_law0_r19, w ∈ lw_tbl := fun w h => (goodIn_p wsL_law0_r19 [756, 760, 519, 764] (by decide +kernel) (by decide +kernel) w h).1
set_option maxRecDepth 20000 in
theorem in0_wsL_law0_r20 : ∀ w ∈ wsL_law0_r20, w ∈ lw_tbl := fun w h => (goodIn_p wsL_law0_r20 [526, 530, 768, 537, 541, 544] (by decide +kernel) (by decide +kernel) w h).1
set_option maxRecDepth 20000 in
theorem in0_wsL_law0_r21 : ∀ w ∈ wsL_law0_r21, w ∈ lw_tbl := fun w h => (goodIn_p wsL_law0_r21 [772, 551, 555, 559, 777] (by decide +kernel) (by decide +kernel) w h).1
set_option maxRecDepth 20000 in
theorem in0_wsL_law0_r22 : ∀ w ∈ wsL_law0_r22, w ∈ lw_tbl := fun w h => (goodIn_p wsL_law0_r22 [566, 570, 575, 781] (by decide +kernel) (by decide +kernel) w h).1
set_option maxRecDepth 20000 in
theorem in0_wsL_law0_r23 : ∀ w ∈ wsL_law0_r23, w ∈ lw_tbl := fun w h => (goodIn_p wsL_law0_r23 [119, 785, 131, 141, 146] (by decide +kernel) (by decide +kernel) w h).1
set_option maxRecDepth 20000 in
theorem in0_wsL_law0_r24 : ∀ w ∈ wsL_law0_r24, w ∈ lw_tbl := fun w h => (goodIn_p wsL_law0_r24 [789] (by decide +kernel) (by decide +kernel) w h).1
set_option maxRecDepth 20000 in
theorem in0_wsX40 : ∀ w ∈ wsX40, w ∈ lw_tbl := fun w h => (goodIn_p wsX40 [] (by decide +kernel) (by decide +kernel) w h).1
set_option maxRecDepth 20000 in
theorem in0_wsX50 : ∀ w ∈ wsX50, w ∈ lw_tbl := fun w h => (goodIn_p wsX50 [] (by decide +kernel) (by decide +kernel) w h).1
set_option maxRecDepth 20000 in
theorem in0_wsX20 : ∀ w ∈ wsX20, w ∈ lw_tbl := fun w h => (goodIn_p wsX20 [] (by decide +kernel) (by decide +kernel) w h).1
set_option maxRecDepth 20000 in
theorem in0_wsX30 : ∀ w ∈ wsX30, w ∈ lw_tbl := fun w h => (goodIn_p wsX30 [] (by decide +kernel) (by decide +kernel) w h).1
set_option maxRecDepth 20000 in
theorem in0_wsX10 : ∀ w ∈ wsX10, w ∈ lw_tbl := fun w h => (goodIn_p wsX10 [] (by decide +kernel) (by decide +kernel) w h).1
set_option maxRecDepth 20000 in
theorem in0_wsX00 : ∀ w ∈ wsX00, w ∈ lw_tbl := fun w h => (goodIn_p wsX00 [] (by decide +kernel) (by decide +kernel) w h).1
theorem wsL_law_in0 : ∀ w ∈ wsL_law0, w ∈ lw_tbl := fun w h => (List.mem_append.mp h).elim (fun h => (List.mem_append.mp h).elim (fun h => (List.mem_append.mp h).elim (fun h => (List.mem_append.mp h).elim (fun h => (List.mem_append.mp h).elim (fun h => (List.mem_append.mp h).elim (fun h => (List.mem_append.mp h).elim (fun h => (List.mem_append.mp h).elim (fun h => in0_wsL_law0_r1 w h) (fun h => (List.mem_append.mp h).elim (fun h => in0_wsL_law0_r2 w h) (fun h => (List.mem_append.mp h).elim (fun h => in0_wsL_law0_r3 w h) (fun h => (List.mem_append.mp h).elim (fun h => in0_wsL_law0_r4 w h) (fun h => (List.mem_append.mp h).elim (fun h => in0_wsL_law0_r5 w h) (fun h => (List.mem_append.mp h).elim (fun h => in0_wsL_law0_r6 w h) (fun h => (List.mem_append.mp h).elim (fun h => in0_wsL_law0_r7 w h) (fun h => (List.mem_append.mp h).elim (fun h => in0_wsL_law0_r8 w h) (fun h => (List.mem_append.mp h).elim (fun h => in0_wsL_law0_r9 w h) (fun h => (List.mem_append.mp h).elim (fun h => in0_wsL_law0_r10 w h) (fun h => (List.mem_append.mp h).elim (fun h => in0_wsL_law0_r11 w h) (fun h => (List.mem_append.mp h).elim (fun h => in0_wsL_law0_r12 w h) (fun h => (List.mem_append.mp h).elim (fun h => in0_wsL_law0_r13 w h) (fun h => (List.mem_append.mp h).elim (fun h => in0_wsL_law0_r14 w h) (fun h => (List.mem_append.mp h).elim (fun h => in0_wsL_law0_r15 w h) (fun h => (List.mem_append.mp h).elim (fun h => in0_wsL_law0_r16 w h) (fun h => (List.mem_append.mp h).elim (fun h => in0_wsL_law0_r17 w h) (fun h => (List.mem_append.mp h).elim (fun h => in0_wsL_law0_r18 w h) (fun h => (List.mem_append.mp h).elim (fun h => in0_wsL_law0_r19 w h) (fun h => (List.mem_append.mp h).elim (fun h => in0_wsL_law0_r20 w h) (fun h => (List.mem_append.mp h).elim (fun h => in0_wsL_law0_r21 w h) (fun h => (List.mem_append.mp h).elim (fun h => in0_wsL_law0_r22 w h) (fun h => (List.mem_append.mp h).elim (fun h => in0_wsL_law0_r23 w h) (fun h => in0_wsL_law0_r24 w h)))))))))))))))))))))))) (fun h => in0_wsX40 w h)) (fun h => in0_wsX50 w h)) (fun h => in0_wsX20 w h)) (fun h => in0_wsX30 w h)) (fun h => in0_wsX10 w h)) (fun h => in0_wsX00 w h)) (fun h => absurd h List.not_mem_nil)
end
section
theorem wsL_law_x0 : ∀ w ∈ (vx_atS RX4 55 "java/lang/IllegalStateException" ["java/lang/RuntimeException", "java/lang/Exception"]).filter goodWord, w ∈ lw_tbl := by decide +kernel
theorem wsL_law_x1 : ∀ w ∈ (vx_atS RX4 183 "java/lang/IndexOutOfBoundsException" ["java/lang/RuntimeException", "java/lang/Exception"]).filter goodWord, w ∈ lw_tbl := by decide +kernel
theorem wsL_law_x2 : ∀ w ∈ (vx_atS RX4 75 "java/lang/IllegalArgumentException" ["java/lang/RuntimeException", "java/lang/Exception"]).filter goodWord, w ∈ lw_tbl := by decide +kernel
theorem wsL_law_in : ∀ w ∈ wsL_law, w ∈ lw_tbl := fun w h => (List.mem_append.mp h).elim (fun h => (List.mem_append.mp h).elim (fun h => (List.mem_append.mp h).elim (fun h => wsL_law_in0 w h) (fun h => wsL_law_x0 w h)) (fun h => wsL_law_x1 w h)) (fun h => wsL_law_x2 w h)
theorem inlX0 : ∀ w ∈ wsX00, w ∈ wsL_law := fun _ h => List.mem_append_left _ (List.mem_append_left _ (List.mem_append_left _ (List.mem_append_left _ (List.mem_append_right _ h))))
theorem inX0 : ∀ w ∈ wsX00, w ∈ lw_tbl := fun w h => wsL_law_in w (inlX0 w h)
theorem inlX1 : ∀ w ∈ wsX10, w ∈ wsL_law := fun _ h => List.mem_append_left _ (List.mem_append_left _ (List.mem_append_left _ (List.mem_append_left _ (List.mem_append_left _ (List.mem_append_right _ h)))))
theorem inX1 : ∀ w ∈ wsX10, w ∈ lw_tbl := fun w h => wsL_law_in w (inlX1 w h)
theorem inlX2 : ∀ w ∈ wsX20, w ∈ wsL_law := fun _ h => List.mem_append_left _ (List.mem_append_left _ (List.mem_append_left _ (List.mem_append_left _ (List.mem_append_left _ (List.mem_append_left _ (List.mem_append_left _ (List.mem_append_right _ h)))))))
theorem inX2 : ∀ w ∈ wsX20, w ∈ lw_tbl := fun w h => wsL_law_in w (inlX2 w h)
theorem inlX3 : ∀ w ∈ wsX30, w ∈ wsL_law := fun _ h => List.mem_append_left _ (List.mem_append_left _ (List.mem_append_left _ (List.mem_append_left _ (List.mem_append_left _ (List.mem_append_left _ (List.mem_append_right _ h))))))
theorem inX3 : ∀ w ∈ wsX30, w ∈ lw_tbl := fun w h => wsL_law_in w (inlX3 w h)
theorem inlX4 : ∀ w ∈ wsX40, w ∈ wsL_law := fun _ h => List.mem_append_left _ (List.mem_append_left _ (List.mem_append_left _ (List.mem_append_left _ (List.mem_append_left _ (List.mem_append_left _ (List.mem_append_left _ (List.mem_append_left _ (List.mem_append_left _ (List.mem_append_right _ h)))))))))
theorem inX4 : ∀ w ∈ wsX40, w ∈ lw_tbl := fun w h => wsL_law_in w (inlX4 w h)
theorem inlX5 : ∀ w ∈ wsX50, w ∈ wsL_law := fun _ h => List.mem_append_left _ (List.mem_append_left _ (List.mem_append_left _ (List.mem_append_left _ (List.mem_append_left _ (List.mem_append_left _ (List.mem_append_left _ (List.mem_append_left _ (List.mem_append_right _ h))))))))
theorem inX5 : ∀ w ∈ wsX50, w ∈ lw_tbl := fun w h => wsL_law_in w (inlX5 w h)
theorem inJx145de : ∀ w ∈ wsJx145de0, w ∈ lw_tbl := by decide +kernel
theorem inJ9 : ∀ w ∈ wsJ90, w ∈ lw_tbl := by decide +kernel
theorem inJ0 : ∀ w ∈ wsJ00, w ∈ lw_tbl := by decide +kernel
theorem inJ7 : ∀ w ∈ wsJ70, w ∈ lw_tbl := by decide +kernel
abbrev vwCl : List vw_C := [(RX0, TX0, 6), (RX1, TX1, 2), (RX2, TX2, 1), (RX3, TX3, 2), (RX4, TX4, 11), (RX5, TX5, 17)]
end
section
set_option maxRecDepth 20000 in
theorem ggX0_init_X2_init : GoodIn wsX0_init wsX2_init := goodIn_r _ [11, 12, 2, 3, 13, 14, 15] (by decide +kernel) (by decide +kernel)
set_option maxRecDepth 20000 in
theorem gX0_init_X2_init_n11 : GoodIn wsX0_init (wsX2_init) := ggX0_init_X2_init
theorem dX0_init_0 : decode cX0_init 0 = .ok (.aload_n 0, 1) := by decide +kernel
theorem dX0_init_1 : decode cX0_init 1 = .ok (.invokespecial 3, 3) := by decide +kernel
theorem dX0_init_4 : decode cX0_init 4 = .ok (.aload_n 0, 1) := by decide +kernel
theorem dX0_init_5 : decode cX0_init 5 = .ok (.new 9, 3) := by decide +kernel
theorem dX0_init_8 : decode cX0_init 8 = .ok (.dup, 1) := by decide +kernel
theorem dX0_init_9 : decode cX0_init 9 = .ok (.invokespecial 11, 3) := by decide +kernel
theorem dX0_init_12 : decode cX0_init 12 = .ok (.putfield 12, 3) := by decide +kernel
theorem dX0_init_15 : decode cX0_init 15 = .ok (.aload_n 0, 1) := by decide +kernel
theorem dX0_init_16 : decode cX0_init 16 = .ok (.new 9, 3) := by decide +kernel
theorem dX0_init_19 : decode cX0_init 19 = .ok (.dup, 1) := by decide +kernel
theorem dX0_init_20 : decode cX0_init 20 = .ok (.invokespecial 11, 3) := by decide +kernel
theorem dX0_init_23 : decode cX0_init 23 = .ok (.putfield 18, 3) := by decide +kernel
theorem dX0_init_26 : decode cX0_init 26 = .ok (.aload_n 0, 1) := by decide +kernel
theorem dX0_init_27 : decode cX0_init 27 = .ok (.iload_n 1, 1) := by decide +kernel
theorem dX0_init_28 : decode cX0_init 28 = .ok (.putfield 21, 3) := by decide +kernel
theorem dX0_init_31 : decode cX0_init 31 = .ok (.return_, 1) := by decide +kernel
set_option maxRecDepth 20000 in
theorem ggX0_rentOfADay_X2_inAll : GoodIn wsX0_rentOfADay wsX2_inAll := goodIn_r _ [7, 8, 15] (by decide +kernel) (by decide +kernel)
set_option maxRecDepth 20000 in
theorem gX0_rentOfADay_X2_inAll : GoodIn wsX0_rentOfADay (wsV RX0 25 RX2 yX2_inAll wsX2_inAll) := goodIn_app (goodIn_of _ (by decide +kernel)) ggX0_rentOfADay_X2_inAll
theorem dX0_rentOfADay_0 : decode cX0_rentOfADay 0 = .ok (.aload_n 0, 1) := by decide +kernel
theorem dX0_rentOfADay_1 : decode cX0_rentOfADay 1 = .ok (.getfield 12, 3) := by decide +kernel
theorem dX0_rentOfADay_4 : decode cX0_rentOfADay 4 = .ok (.invokevirtual 25, 3) := by decide +kernel
theorem dX0_rentOfADay_7 : decode cX0_rentOfADay 7 = .ok (.aload_n 0, 1) := by decide +kernel
theorem dX0_rentOfADay_8 : decode cX0_rentOfADay 8 = .ok (.getfield 18, 3) := by decide +kernel
theorem dX0_rentOfADay_11 : decode cX0_rentOfADay 11 = .ok (.invokevirtual 25, 3) := by decide +kernel
theorem dX0_rentOfADay_14 : decode cX0_rentOfADay 14 = .ok (.iadd, 1) := by decide +kernel
theorem dX0_rentOfADay_15 : decode cX0_rentOfADay 15 = .ok (.bipush 10, 2) := by decide +kernel
theorem dX0_rentOfADay_17 : decode cX0_rentOfADay 17 = .ok (.iadd, 1) := by decide +kernel
theorem dX0_rentOfADay_18 : decode cX0_rentOfADay 18 = .ok (.iconst 1, 1) := by decide +kernel
theorem dX0_rentOfADay_19 : decode cX0_rentOfADay 19 = .ok (.isub, 1) := by decide +kernel
theorem dX0_rentOfADay_20 : decode cX0_rentOfADay 20 = .ok (.bipush 10, 2) := by decide +kernel
theorem dX0_rentOfADay_22 : decode cX0_rentOfADay 22 = .ok (.idiv, 1) := by decide +kernel
theorem dX0_rentOfADay_23 : decode cX0_rentOfADay 23 = .ok (.ireturn, 1) := by decide +kernel
set_option maxRecDepth 20000 in
theorem ggX0_number_X2_inAll : GoodIn wsX0_number wsX2_inAll := goodIn_r _ [11, 12, 23] (by decide +kernel) (by decide +kernel)
set_option maxRecDepth 20000 in
theorem gX0_number_X2_inAll : GoodIn wsX0_number (wsV RX0 25 RX2 yX2_inAll wsX2_inAll) := goodIn_app (goodIn_of _ (by decide +kernel)) ggX0_number_X2_inAll
set_option maxRecDepth 20000 in
theorem ggX0_number_X2_wearInAll : GoodIn wsX0_number wsX2_wearInAll := goodIn_r _ [16, 12, 23] (by decide +kernel) (by decide +kernel)
set_option maxRecDepth 20000 in
theorem gX0_number_X2_wearInAll : GoodIn wsX0_number (wsV RX0 32 RX2 yX2_wearInAll wsX2_wearInAll) := goodIn_app (goodIn_of _ (by decide +kernel)) ggX0_number_X2_wearInAll
theorem dX0_number_0 : decode cX0_number 0 = .ok (.iload_n 1, 1) := by decide +kernel
theorem dX0_number_1 : decode cX0_number 1 = .ok (.tableswitch 87 0 6 #[43, 48, 53, 61, 69, 77, 82], 43) := by decide +kernel
theorem dX0_number_44 : decode cX0_number 44 = .ok (.aload_n 0, 1) := by decide +kernel
theorem dX0_number_45 : decode cX0_number 45 = .ok (.getfield 21, 3) := by decide +kernel
theorem dX0_number_48 : decode cX0_number 48 = .ok (.ireturn, 1) := by decide +kernel
theorem dX0_number_49 : decode cX0_number 49 = .ok (.aload_n 0, 1) := by decide +kernel
theorem dX0_number_50 : decode cX0_number 50 = .ok (.getfield 29, 3) := by decide +kernel
theorem dX0_number_53 : decode cX0_number 53 = .ok (.ireturn, 1) := by decide +kernel
theorem dX0_number_54 : decode cX0_number 54 = .ok (.aload_n 0, 1) := by decide +kernel
theorem dX0_number_55 : decode cX0_number 55 = .ok (.getfield 12, 3) := by decide +kernel
theorem dX0_number_58 : decode cX0_number 58 = .ok (.invokevirtual 25, 3) := by decide +kernel
theorem dX0_number_61 : decode cX0_number 61 = .ok (.ireturn, 1) := by decide +kernel
theorem dX0_number_62 : decode cX0_number 62 = .ok (.aload_n 0, 1) := by decide +kernel
theorem dX0_number_63 : decode cX0_number 63 = .ok (.getfield 18, 3) := by decide +kernel
theorem dX0_number_66 : decode cX0_number 66 = .ok (.invokevirtual 25, 3) := by decide +kernel
theorem dX0_number_69 : decode cX0_number 69 = .ok (.ireturn, 1) := by decide +kernel
theorem dX0_number_70 : decode cX0_number 70 = .ok (.aload_n 0, 1) := by decide +kernel
theorem dX0_number_71 : decode cX0_number 71 = .ok (.getfield 18, 3) := by decide +kernel
theorem dX0_number_74 : decode cX0_number 74 = .ok (.invokevirtual 32, 3) := by decide +kernel
theorem dX0_number_77 : decode cX0_number 77 = .ok (.ireturn, 1) := by decide +kernel
theorem dX0_number_78 : decode cX0_number 78 = .ok (.aload_n 0, 1) := by decide +kernel
theorem dX0_number_79 : decode cX0_number 79 = .ok (.getfield 35, 3) := by decide +kernel
theorem dX0_number_82 : decode cX0_number 82 = .ok (.ireturn, 1) := by decide +kernel
theorem dX0_number_83 : decode cX0_number 83 = .ok (.aload_n 0, 1) := by decide +kernel
theorem dX0_number_84 : decode cX0_number 84 = .ok (.getfield 38, 3) := by decide +kernel
theorem dX0_number_87 : decode cX0_number 87 = .ok (.ireturn, 1) := by decide +kernel
theorem dX0_number_88 : decode cX0_number 88 = .ok (.iconst 0, 1) := by decide +kernel
theorem dX0_number_89 : decode cX0_number 89 = .ok (.ireturn, 1) := by decide +kernel
set_option maxRecDepth 20000 in
theorem ggX0_digestOnto_X0_number : GoodIn wsX0_digestOnto wsX0_number := goodIn_r _ [6, 7, 8, 9, 10, 11, 12, 13, 14, 15, 16, 17, 18, 19, 20, 21, 22, 23, 24, 25, 26, 27, 28, 29] (by decide +kernel) (by decide +kernel)
set_option maxRecDepth 20000 in
theorem gX0_digestOnto_X0_number : GoodIn wsX0_digestOnto (wsV RX0 43 RX0 yX0_number wsX0_number) := goodIn_app (goodIn_of _ (by decide +kernel)) ggX0_digestOnto_X0_number
theorem dX0_digestOnto_0 : decode cX0_digestOnto 0 = .ok (.lload_n 1, 1) := by decide +kernel
theorem dX0_digestOnto_1 : decode cX0_digestOnto 1 = .ok (.lstore_n 3, 1) := by decide +kernel
theorem dX0_digestOnto_2 : decode cX0_digestOnto 2 = .ok (.iconst 0, 1) := by decide +kernel
theorem dX0_digestOnto_3 : decode cX0_digestOnto 3 = .ok (.istore 5, 2) := by decide +kernel
theorem dX0_digestOnto_5 : decode cX0_digestOnto 5 = .ok (.iload 5, 2) := by decide +kernel
theorem dX0_digestOnto_7 : decode cX0_digestOnto 7 = .ok (.bipush 7, 2) := by decide +kernel
theorem dX0_digestOnto_9 : decode cX0_digestOnto 9 = .ok (.if_icmp .ge 23, 3) := by decide +kernel
theorem dX0_digestOnto_12 : decode cX0_digestOnto 12 = .ok (.lload_n 3, 1) := by decide +kernel
theorem dX0_digestOnto_13 : decode cX0_digestOnto 13 = .ok (.ldc2_w 41, 3) := by decide +kernel
theorem dX0_digestOnto_16 : decode cX0_digestOnto 16 = .ok (.lmul, 1) := by decide +kernel
theorem dX0_digestOnto_17 : decode cX0_digestOnto 17 = .ok (.aload_n 0, 1) := by decide +kernel
theorem dX0_digestOnto_18 : decode cX0_digestOnto 18 = .ok (.iload 5, 2) := by decide +kernel
theorem dX0_digestOnto_20 : decode cX0_digestOnto 20 = .ok (.invokevirtual 43, 3) := by decide +kernel
theorem dX0_digestOnto_23 : decode cX0_digestOnto 23 = .ok (.i2l, 1) := by decide +kernel
theorem dX0_digestOnto_24 : decode cX0_digestOnto 24 = .ok (.ladd, 1) := by decide +kernel
theorem dX0_digestOnto_25 : decode cX0_digestOnto 25 = .ok (.lstore_n 3, 1) := by decide +kernel
theorem dX0_digestOnto_26 : decode cX0_digestOnto 26 = .ok (.iinc 5 1, 3) := by decide +kernel
theorem dX0_digestOnto_29 : decode cX0_digestOnto 29 = .ok (.goto (-24), 3) := by decide +kernel
theorem dX0_digestOnto_32 : decode cX0_digestOnto 32 = .ok (.lload_n 3, 1) := by decide +kernel
theorem dX0_digestOnto_33 : decode cX0_digestOnto 33 = .ok (.lreturn, 1) := by decide +kernel
theorem dX1_init_0 : decode cX1_init 0 = .ok (.aload_n 0, 1) := by decide +kernel
theorem dX1_init_1 : decode cX1_init 1 = .ok (.invokespecial 3, 3) := by decide +kernel
theorem dX1_init_4 : decode cX1_init 4 = .ok (.aload_n 0, 1) := by decide +kernel
theorem dX1_init_5 : decode cX1_init 5 = .ok (.bipush 29, 2) := by decide +kernel
theorem dX1_init_7 : decode cX1_init 7 = .ok (.newarray .int, 2) := by decide +kernel
theorem dX1_init_9 : decode cX1_init 9 = .ok (.putfield 9, 3) := by decide +kernel
theorem dX1_init_12 : decode cX1_init 12 = .ok (.aload_n 0, 1) := by decide +kernel
theorem dX1_init_13 : decode cX1_init 13 = .ok (.bipush 29, 2) := by decide +kernel
theorem dX1_init_15 : decode cX1_init 15 = .ok (.newarray .int, 2) := by decide +kernel
theorem dX1_init_17 : decode cX1_init 17 = .ok (.putfield 15, 3) := by decide +kernel
theorem dX1_init_20 : decode cX1_init 20 = .ok (.return_, 1) := by decide +kernel
set_option maxRecDepth 20000 in
theorem ggX1_fillFrom_X2_ofSign : GoodIn wsX1_fillFrom wsX2_ofSign := goodIn_r _ [6, 7, 8, 9, 5, 10, 11, 14] (by decide +kernel) (by decide +kernel)
set_option maxRecDepth 20000 in
theorem gX1_fillFrom_X2_ofSign : GoodIn wsX1_fillFrom (wsV RX1 18 RX2 yX2_ofSign wsX2_ofSign) := goodIn_app (goodIn_of _ (by decide +kernel)) ggX1_fillFrom_X2_ofSign
theorem dX1_fillFrom_0 : decode cX1_fillFrom 0 = .ok (.iconst 0, 1) := by decide +kernel
theorem dX1_fillFrom_1 : decode cX1_fillFrom 1 = .ok (.istore_n 2, 1) := by decide +kernel
theorem dX1_fillFrom_2 : decode cX1_fillFrom 2 = .ok (.iload_n 2, 1) := by decide +kernel
theorem dX1_fillFrom_3 : decode cX1_fillFrom 3 = .ok (.bipush 29, 2) := by decide +kernel
theorem dX1_fillFrom_5 : decode cX1_fillFrom 5 = .ok (.if_icmp .ge 20, 3) := by decide +kernel
theorem dX1_fillFrom_8 : decode cX1_fillFrom 8 = .ok (.aload_n 0, 1) := by decide +kernel
theorem dX1_fillFrom_9 : decode cX1_fillFrom 9 = .ok (.getfield 9, 3) := by decide +kernel
theorem dX1_fillFrom_12 : decode cX1_fillFrom 12 = .ok (.iload_n 2, 1) := by decide +kernel
theorem dX1_fillFrom_13 : decode cX1_fillFrom 13 = .ok (.aload_n 1, 1) := by decide +kernel
theorem dX1_fillFrom_14 : decode cX1_fillFrom 14 = .ok (.iload_n 2, 1) := by decide +kernel
theorem dX1_fillFrom_15 : decode cX1_fillFrom 15 = .ok (.invokevirtual 18, 3) := by decide +kernel
theorem dX1_fillFrom_18 : decode cX1_fillFrom 18 = .ok (.iastore, 1) := by decide +kernel
theorem dX1_fillFrom_19 : decode cX1_fillFrom 19 = .ok (.iinc 2 1, 3) := by decide +kernel
theorem dX1_fillFrom_22 : decode cX1_fillFrom 22 = .ok (.goto (-20), 3) := by decide +kernel
theorem dX1_fillFrom_25 : decode cX1_fillFrom 25 = .ok (.return_, 1) := by decide +kernel
set_option maxRecDepth 20000 in
theorem ggX1_fillWithoutEnd_J7_fill_53178 : GoodIn wsX1_fillWithoutEnd wsJ7_fill_53178 := goodIn_r _ [5] (by decide +kernel) (by decide +kernel)
set_option maxRecDepth 20000 in
theorem gX1_fillWithoutEnd_J7_fill_53178 : GoodIn wsX1_fillWithoutEnd (va_wsS RX1 24 yJ7_fill_53178 wsJ7_fill_53178) := goodIn_app (goodIn_of _ (by decide +kernel)) ggX1_fillWithoutEnd_J7_fill_53178
theorem dX1_fillWithoutEnd_0 : decode cX1_fillWithoutEnd 0 = .ok (.aload_n 0, 1) := by decide +kernel
theorem dX1_fillWithoutEnd_1 : decode cX1_fillWithoutEnd 1 = .ok (.getfield 9, 3) := by decide +kernel
theorem dX1_fillWithoutEnd_4 : decode cX1_fillWithoutEnd 4 = .ok (.bipush 100, 2) := by decide +kernel
theorem dX1_fillWithoutEnd_6 : decode cX1_fillWithoutEnd 6 = .ok (.invokestatic 24, 3) := by decide +kernel
theorem dX1_fillWithoutEnd_9 : decode cX1_fillWithoutEnd 9 = .ok (.return_, 1) := by decide +kernel
theorem dX1_takenOfPlenty_0 : decode cX1_takenOfPlenty 0 = .ok (.iload_n 1, 1) := by decide +kernel
theorem dX1_takenOfPlenty_1 : decode cX1_takenOfPlenty 1 = .ok (.ifCond .lt 9, 3) := by decide +kernel
theorem dX1_takenOfPlenty_4 : decode cX1_takenOfPlenty 4 = .ok (.iload_n 1, 1) := by decide +kernel
theorem dX1_takenOfPlenty_5 : decode cX1_takenOfPlenty 5 = .ok (.bipush 29, 2) := by decide +kernel
theorem dX1_takenOfPlenty_7 : decode cX1_takenOfPlenty 7 = .ok (.if_icmp .lt 7, 3) := by decide +kernel
theorem dX1_takenOfPlenty_10 : decode cX1_takenOfPlenty 10 = .ok (.iconst 0, 1) := by decide +kernel
theorem dX1_takenOfPlenty_11 : decode cX1_takenOfPlenty 11 = .ok (.goto 12, 3) := by decide +kernel
theorem dX1_takenOfPlenty_14 : decode cX1_takenOfPlenty 14 = .ok (.bipush 100, 2) := by decide +kernel
theorem dX1_takenOfPlenty_16 : decode cX1_takenOfPlenty 16 = .ok (.aload_n 0, 1) := by decide +kernel
theorem dX1_takenOfPlenty_17 : decode cX1_takenOfPlenty 17 = .ok (.getfield 9, 3) := by decide +kernel
theorem dX1_takenOfPlenty_20 : decode cX1_takenOfPlenty 20 = .ok (.iload_n 1, 1) := by decide +kernel
theorem dX1_takenOfPlenty_21 : decode cX1_takenOfPlenty 21 = .ok (.iaload, 1) := by decide +kernel
theorem dX1_takenOfPlenty_22 : decode cX1_takenOfPlenty 22 = .ok (.isub, 1) := by decide +kernel
theorem dX1_takenOfPlenty_23 : decode cX1_takenOfPlenty 23 = .ok (.ireturn, 1) := by decide +kernel
theorem dX1_taken_0 : decode cX1_taken 0 = .ok (.iload_n 1, 1) := by decide +kernel
theorem dX1_taken_1 : decode cX1_taken 1 = .ok (.ifCond .lt 9, 3) := by decide +kernel
theorem dX1_taken_4 : decode cX1_taken 4 = .ok (.iload_n 1, 1) := by decide +kernel
theorem dX1_taken_5 : decode cX1_taken 5 = .ok (.bipush 29, 2) := by decide +kernel
theorem dX1_taken_7 : decode cX1_taken 7 = .ok (.if_icmp .lt 7, 3) := by decide +kernel
theorem dX1_taken_10 : decode cX1_taken 10 = .ok (.iconst 0, 1) := by decide +kernel
theorem dX1_taken_11 : decode cX1_taken 11 = .ok (.goto 9, 3) := by decide +kernel
theorem dX1_taken_14 : decode cX1_taken 14 = .ok (.aload_n 0, 1) := by decide +kernel
theorem dX1_taken_15 : decode cX1_taken 15 = .ok (.getfield 15, 3) := by decide +kernel
theorem dX1_taken_18 : decode cX1_taken 18 = .ok (.iload_n 1, 1) := by decide +kernel
theorem dX1_taken_19 : decode cX1_taken 19 = .ok (.iaload, 1) := by decide +kernel
theorem dX1_taken_20 : decode cX1_taken 20 = .ok (.ireturn, 1) := by decide +kernel
set_option maxRecDepth 20000 in
theorem ggX1_lay_J7_fill_53178 : GoodIn wsX1_lay wsJ7_fill_53178 := goodIn_r _ [6] (by decide +kernel) (by decide +kernel)
set_option maxRecDepth 20000 in
theorem gX1_lay_J7_fill_53178 : GoodIn wsX1_lay (va_wsS RX1 24 yJ7_fill_53178 wsJ7_fill_53178) := goodIn_app (goodIn_of _ (by decide +kernel)) ggX1_lay_J7_fill_53178
set_option maxRecDepth 20000 in
theorem ggX1_lay_X3_firstPlace : GoodIn wsX1_lay wsX3_firstPlace := goodIn_r _ [11, 12, 33, 34] (by decide +kernel) (by decide +kernel)
set_option maxRecDepth 20000 in
theorem gX1_lay_X3_firstPlace : GoodIn wsX1_lay (wsV RX1 30 RX3 yX3_firstPlace wsX3_firstPlace) := goodIn_app (goodIn_of _ (by decide +kernel)) ggX1_lay_X3_firstPlace
set_option maxRecDepth 20000 in
theorem ggX1_lay_X1_signFor : GoodIn wsX1_lay wsX1_signFor := goodIn_r _ [17, 2, 18, 19, 20, 10, 21, 22, 23, 24, 25, 12, 26, 27, 31, 32, 33, 34] (by decide +kernel) (by decide +kernel)
set_option maxRecDepth 20000 in
theorem gX1_lay_X1_signFor : GoodIn wsX1_lay (wsV RX1 36 RX1 yX1_signFor wsX1_signFor) := goodIn_app (goodIn_of _ (by decide +kernel)) ggX1_lay_X1_signFor
set_option maxRecDepth 20000 in
theorem ggX1_lay_X4_isLigature : GoodIn wsX1_lay wsX4_isLigature := goodIn_r _ [30] (by decide +kernel) (by decide +kernel)
set_option maxRecDepth 20000 in
theorem gX1_lay_X4_isLigature_n40 : GoodIn wsX1_lay (wsX4_isLigature) := ggX1_lay_X4_isLigature
theorem dX1_lay_0 : decode cX1_lay 0 = .ok (.aload_n 0, 1) := by decide +kernel
theorem dX1_lay_1 : decode cX1_lay 1 = .ok (.getfield 15, 3) := by decide +kernel
theorem dX1_lay_4 : decode cX1_lay 4 = .ok (.iconst 0, 1) := by decide +kernel
theorem dX1_lay_5 : decode cX1_lay 5 = .ok (.invokestatic 24, 3) := by decide +kernel
theorem dX1_lay_8 : decode cX1_lay 8 = .ok (.iconst 0, 1) := by decide +kernel
theorem dX1_lay_9 : decode cX1_lay 9 = .ok (.istore_n 2, 1) := by decide +kernel
theorem dX1_lay_10 : decode cX1_lay 10 = .ok (.aload_n 1, 1) := by decide +kernel
theorem dX1_lay_11 : decode cX1_lay 11 = .ok (.invokevirtual 30, 3) := by decide +kernel
theorem dX1_lay_14 : decode cX1_lay 14 = .ok (.istore_n 3, 1) := by decide +kernel
theorem dX1_lay_15 : decode cX1_lay 15 = .ok (.iload_n 3, 1) := by decide +kernel
theorem dX1_lay_16 : decode cX1_lay 16 = .ok (.bipush 6, 2) := by decide +kernel
theorem dX1_lay_18 : decode cX1_lay 18 = .ok (.if_icmp .ge 80, 3) := by decide +kernel
theorem dX1_lay_21 : decode cX1_lay 21 = .ok (.aload_n 0, 1) := by decide +kernel
theorem dX1_lay_22 : decode cX1_lay 22 = .ok (.aload_n 1, 1) := by decide +kernel
theorem dX1_lay_23 : decode cX1_lay 23 = .ok (.iload_n 3, 1) := by decide +kernel
theorem dX1_lay_24 : decode cX1_lay 24 = .ok (.invokevirtual 36, 3) := by decide +kernel
theorem dX1_lay_27 : decode cX1_lay 27 = .ok (.istore 4, 2) := by decide +kernel
theorem dX1_lay_29 : decode cX1_lay 29 = .ok (.iload 4, 2) := by decide +kernel
theorem dX1_lay_31 : decode cX1_lay 31 = .ok (.ifCond .lt 21, 3) := by decide +kernel
theorem dX1_lay_34 : decode cX1_lay 34 = .ok (.iload 4, 2) := by decide +kernel
theorem dX1_lay_36 : decode cX1_lay 36 = .ok (.bipush 29, 2) := by decide +kernel
theorem dX1_lay_38 : decode cX1_lay 38 = .ok (.if_icmp .ge 14, 3) := by decide +kernel
theorem dX1_lay_41 : decode cX1_lay 41 = .ok (.aload_n 0, 1) := by decide +kernel
theorem dX1_lay_42 : decode cX1_lay 42 = .ok (.getfield 9, 3) := by decide +kernel
theorem dX1_lay_45 : decode cX1_lay 45 = .ok (.iload 4, 2) := by decide +kernel
theorem dX1_lay_47 : decode cX1_lay 47 = .ok (.iaload, 1) := by decide +kernel
theorem dX1_lay_48 : decode cX1_lay 48 = .ok (.iconst 1, 1) := by decide +kernel
theorem dX1_lay_49 : decode cX1_lay 49 = .ok (.if_icmp .ge 5, 3) := by decide +kernel
theorem dX1_lay_52 : decode cX1_lay 52 = .ok (.iconst (-1), 1) := by decide +kernel
theorem dX1_lay_53 : decode cX1_lay 53 = .ok (.ireturn, 1) := by decide +kernel
theorem dX1_lay_54 : decode cX1_lay 54 = .ok (.aload_n 0, 1) := by decide +kernel
theorem dX1_lay_55 : decode cX1_lay 55 = .ok (.getfield 9, 3) := by decide +kernel
theorem dX1_lay_58 : decode cX1_lay 58 = .ok (.iload 4, 2) := by decide +kernel
theorem dX1_lay_60 : decode cX1_lay 60 = .ok (.dup2, 1) := by decide +kernel
theorem dX1_lay_61 : decode cX1_lay 61 = .ok (.iaload, 1) := by decide +kernel
theorem dX1_lay_62 : decode cX1_lay 62 = .ok (.iconst 1, 1) := by decide +kernel
theorem dX1_lay_63 : decode cX1_lay 63 = .ok (.isub, 1) := by decide +kernel
theorem dX1_lay_64 : decode cX1_lay 64 = .ok (.iastore, 1) := by decide +kernel
theorem dX1_lay_65 : decode cX1_lay 65 = .ok (.aload_n 0, 1) := by decide +kernel
theorem dX1_lay_66 : decode cX1_lay 66 = .ok (.getfield 15, 3) := by decide +kernel
theorem dX1_lay_69 : decode cX1_lay 69 = .ok (.iload 4, 2) := by decide +kernel
theorem dX1_lay_71 : decode cX1_lay 71 = .ok (.dup2, 1) := by decide +kernel
theorem dX1_lay_72 : decode cX1_lay 72 = .ok (.iaload, 1) := by decide +kernel
theorem dX1_lay_73 : decode cX1_lay 73 = .ok (.iconst 1, 1) := by decide +kernel
theorem dX1_lay_74 : decode cX1_lay 74 = .ok (.iadd, 1) := by decide +kernel
theorem dX1_lay_75 : decode cX1_lay 75 = .ok (.iastore, 1) := by decide +kernel
theorem dX1_lay_76 : decode cX1_lay 76 = .ok (.iinc 2 1, 3) := by decide +kernel
theorem dX1_lay_79 : decode cX1_lay 79 = .ok (.iload_n 3, 1) := by decide +kernel
theorem dX1_lay_80 : decode cX1_lay 80 = .ok (.iload 4, 2) := by decide +kernel
theorem dX1_lay_82 : decode cX1_lay 82 = .ok (.invokestatic 40, 3) := by decide +kernel
theorem dX1_lay_85 : decode cX1_lay 85 = .ok (.ifCond .eq 7, 3) := by decide +kernel
theorem dX1_lay_88 : decode cX1_lay 88 = .ok (.iconst 2, 1) := by decide +kernel
theorem dX1_lay_89 : decode cX1_lay 89 = .ok (.goto 4, 3) := by decide +kernel
theorem dX1_lay_92 : decode cX1_lay 92 = .ok (.iconst 1, 1) := by decide +kernel
theorem dX1_lay_93 : decode cX1_lay 93 = .ok (.iadd, 1) := by decide +kernel
theorem dX1_lay_94 : decode cX1_lay 94 = .ok (.istore_n 3, 1) := by decide +kernel
theorem dX1_lay_95 : decode cX1_lay 95 = .ok (.goto (-80), 3) := by decide +kernel
theorem dX1_lay_98 : decode cX1_lay 98 = .ok (.iload_n 2, 1) := by decide +kernel
theorem dX1_lay_99 : decode cX1_lay 99 = .ok (.ireturn, 1) := by decide +kernel
set_option maxRecDepth 20000 in
theorem ggX1_layTillOneLacks_X1_lay : GoodIn wsX1_layTillOneLacks wsX1_lay := goodIn_r _ [5, 6, 7, 8, 9, 10, 11, 12, 13, 14, 15, 16, 17, 18, 19, 20, 4, 21, 22, 23, 24, 25, 26, 27, 28, 29, 30, 31, 32, 33, 34, 44, 45, 46, 47] (by decide +kernel) (by decide +kernel)
set_option maxRecDepth 20000 in
theorem gX1_layTillOneLacks_X1_lay : GoodIn wsX1_layTillOneLacks (wsV RX1 44 RX1 yX1_lay wsX1_lay) := goodIn_app (goodIn_of _ (by decide +kernel)) ggX1_layTillOneLacks_X1_lay
set_option maxRecDepth 20000 in
theorem ggX1_layTillOneLacks_X1_layTheSameAgain : GoodIn wsX1_layTillOneLacks wsX1_layTheSameAgain := goodIn_r _ [38, 39, 6, 7, 40, 41, 42, 43, 44, 45] (by decide +kernel) (by decide +kernel)
set_option maxRecDepth 20000 in
theorem gX1_layTillOneLacks_X1_layTheSameAgain : GoodIn wsX1_layTillOneLacks (wsV RX1 48 RX1 yX1_layTheSameAgain wsX1_layTheSameAgain) := goodIn_app (goodIn_of _ (by decide +kernel)) ggX1_layTillOneLacks_X1_layTheSameAgain
theorem dX1_layTillOneLacks_0 : decode cX1_layTillOneLacks 0 = .ok (.iconst 0, 1) := by decide +kernel
theorem dX1_layTillOneLacks_1 : decode cX1_layTillOneLacks 1 = .ok (.istore_n 2, 1) := by decide +kernel
theorem dX1_layTillOneLacks_2 : decode cX1_layTillOneLacks 2 = .ok (.iconst 0, 1) := by decide +kernel
theorem dX1_layTillOneLacks_3 : decode cX1_layTillOneLacks 3 = .ok (.istore_n 3, 1) := by decide +kernel
theorem dX1_layTillOneLacks_4 : decode cX1_layTillOneLacks 4 = .ok (.iload_n 3, 1) := by decide +kernel
theorem dX1_layTillOneLacks_5 : decode cX1_layTillOneLacks 5 = .ok (.sipush 1000, 3) := by decide +kernel
theorem dX1_layTillOneLacks_8 : decode cX1_layTillOneLacks 8 = .ok (.if_icmp .ge 29, 3) := by decide +kernel
theorem dX1_layTillOneLacks_11 : decode cX1_layTillOneLacks 11 = .ok (.aload_n 0, 1) := by decide +kernel
theorem dX1_layTillOneLacks_12 : decode cX1_layTillOneLacks 12 = .ok (.aload_n 1, 1) := by decide +kernel
theorem dX1_layTillOneLacks_13 : decode cX1_layTillOneLacks 13 = .ok (.invokevirtual 44, 3) := by decide +kernel
theorem dX1_layTillOneLacks_16 : decode cX1_layTillOneLacks 16 = .ok (.iconst 1, 1) := by decide +kernel
theorem dX1_layTillOneLacks_17 : decode cX1_layTillOneLacks 17 = .ok (.if_icmp .ge 5, 3) := by decide +kernel
theorem dX1_layTillOneLacks_20 : decode cX1_layTillOneLacks 20 = .ok (.iload_n 2, 1) := by decide +kernel
theorem dX1_layTillOneLacks_21 : decode cX1_layTillOneLacks 21 = .ok (.ireturn, 1) := by decide +kernel
theorem dX1_layTillOneLacks_22 : decode cX1_layTillOneLacks 22 = .ok (.iload_n 2, 1) := by decide +kernel
theorem dX1_layTillOneLacks_23 : decode cX1_layTillOneLacks 23 = .ok (.iconst 1, 1) := by decide +kernel
theorem dX1_layTillOneLacks_24 : decode cX1_layTillOneLacks 24 = .ok (.aload_n 0, 1) := by decide +kernel
theorem dX1_layTillOneLacks_25 : decode cX1_layTillOneLacks 25 = .ok (.invokevirtual 48, 3) := by decide +kernel
theorem dX1_layTillOneLacks_28 : decode cX1_layTillOneLacks 28 = .ok (.iadd, 1) := by decide +kernel
theorem dX1_layTillOneLacks_29 : decode cX1_layTillOneLacks 29 = .ok (.iadd, 1) := by decide +kernel
theorem dX1_layTillOneLacks_30 : decode cX1_layTillOneLacks 30 = .ok (.istore_n 2, 1) := by decide +kernel
theorem dX1_layTillOneLacks_31 : decode cX1_layTillOneLacks 31 = .ok (.iinc 3 1, 3) := by decide +kernel
theorem dX1_layTillOneLacks_34 : decode cX1_layTillOneLacks 34 = .ok (.goto (-30), 3) := by decide +kernel
theorem dX1_layTillOneLacks_37 : decode cX1_layTillOneLacks 37 = .ok (.iload_n 2, 1) := by decide +kernel
theorem dX1_layTillOneLacks_38 : decode cX1_layTillOneLacks 38 = .ok (.ireturn, 1) := by decide +kernel
theorem dX1_layTheSameAgain_0 : decode cX1_layTheSameAgain 0 = .ok (.ldc 53, 2) := by decide +kernel
theorem dX1_layTheSameAgain_2 : decode cX1_layTheSameAgain 2 = .ok (.istore_n 1, 1) := by decide +kernel
theorem dX1_layTheSameAgain_3 : decode cX1_layTheSameAgain 3 = .ok (.iconst 0, 1) := by decide +kernel
theorem dX1_layTheSameAgain_4 : decode cX1_layTheSameAgain 4 = .ok (.istore_n 2, 1) := by decide +kernel
theorem dX1_layTheSameAgain_5 : decode cX1_layTheSameAgain 5 = .ok (.iload_n 2, 1) := by decide +kernel
theorem dX1_layTheSameAgain_6 : decode cX1_layTheSameAgain 6 = .ok (.bipush 29, 2) := by decide +kernel
theorem dX1_layTheSameAgain_8 : decode cX1_layTheSameAgain 8 = .ok (.if_icmp .ge 36, 3) := by decide +kernel
theorem dX1_layTheSameAgain_11 : decode cX1_layTheSameAgain 11 = .ok (.aload_n 0, 1) := by decide +kernel
theorem dX1_layTheSameAgain_12 : decode cX1_layTheSameAgain 12 = .ok (.getfield 15, 3) := by decide +kernel
theorem dX1_layTheSameAgain_15 : decode cX1_layTheSameAgain 15 = .ok (.iload_n 2, 1) := by decide +kernel
theorem dX1_layTheSameAgain_16 : decode cX1_layTheSameAgain 16 = .ok (.iaload, 1) := by decide +kernel
theorem dX1_layTheSameAgain_17 : decode cX1_layTheSameAgain 17 = .ok (.ifCond .le 21, 3) := by decide +kernel
theorem dX1_layTheSameAgain_20 : decode cX1_layTheSameAgain 20 = .ok (.iload_n 1, 1) := by decide +kernel
theorem dX1_layTheSameAgain_21 : decode cX1_layTheSameAgain 21 = .ok (.aload_n 0, 1) := by decide +kernel
theorem dX1_layTheSameAgain_22 : decode cX1_layTheSameAgain 22 = .ok (.getfield 9, 3) := by decide +kernel
theorem dX1_layTheSameAgain_25 : decode cX1_layTheSameAgain 25 = .ok (.iload_n 2, 1) := by decide +kernel
theorem dX1_layTheSameAgain_26 : decode cX1_layTheSameAgain 26 = .ok (.iaload, 1) := by decide +kernel
theorem dX1_layTheSameAgain_27 : decode cX1_layTheSameAgain 27 = .ok (.aload_n 0, 1) := by decide +kernel
theorem dX1_layTheSameAgain_28 : decode cX1_layTheSameAgain 28 = .ok (.getfield 15, 3) := by decide +kernel
theorem dX1_layTheSameAgain_31 : decode cX1_layTheSameAgain 31 = .ok (.iload_n 2, 1) := by decide +kernel
theorem dX1_layTheSameAgain_32 : decode cX1_layTheSameAgain 32 = .ok (.iaload, 1) := by decide +kernel
theorem dX1_layTheSameAgain_33 : decode cX1_layTheSameAgain 33 = .ok (.idiv, 1) := by decide +kernel
theorem dX1_layTheSameAgain_34 : decode cX1_layTheSameAgain 34 = .ok (.invokestatic 54, 3) := by decide +kernel
theorem dX1_layTheSameAgain_37 : decode cX1_layTheSameAgain 37 = .ok (.istore_n 1, 1) := by decide +kernel
theorem dX1_layTheSameAgain_38 : decode cX1_layTheSameAgain 38 = .ok (.iinc 2 1, 3) := by decide +kernel
theorem dX1_layTheSameAgain_41 : decode cX1_layTheSameAgain 41 = .ok (.goto (-36), 3) := by decide +kernel
theorem dX1_layTheSameAgain_44 : decode cX1_layTheSameAgain 44 = .ok (.iconst 0, 1) := by decide +kernel
theorem dX1_layTheSameAgain_45 : decode cX1_layTheSameAgain 45 = .ok (.istore_n 2, 1) := by decide +kernel
theorem dX1_layTheSameAgain_46 : decode cX1_layTheSameAgain 46 = .ok (.iload_n 2, 1) := by decide +kernel
theorem dX1_layTheSameAgain_47 : decode cX1_layTheSameAgain 47 = .ok (.bipush 29, 2) := by decide +kernel
theorem dX1_layTheSameAgain_49 : decode cX1_layTheSameAgain 49 = .ok (.if_icmp .ge 26, 3) := by decide +kernel
theorem dX1_layTheSameAgain_52 : decode cX1_layTheSameAgain 52 = .ok (.aload_n 0, 1) := by decide +kernel
theorem dX1_layTheSameAgain_53 : decode cX1_layTheSameAgain 53 = .ok (.getfield 9, 3) := by decide +kernel
theorem dX1_layTheSameAgain_56 : decode cX1_layTheSameAgain 56 = .ok (.iload_n 2, 1) := by decide +kernel
theorem dX1_layTheSameAgain_57 : decode cX1_layTheSameAgain 57 = .ok (.dup2, 1) := by decide +kernel
theorem dX1_layTheSameAgain_58 : decode cX1_layTheSameAgain 58 = .ok (.iaload, 1) := by decide +kernel
theorem dX1_layTheSameAgain_59 : decode cX1_layTheSameAgain 59 = .ok (.iload_n 1, 1) := by decide +kernel
theorem dX1_layTheSameAgain_60 : decode cX1_layTheSameAgain 60 = .ok (.aload_n 0, 1) := by decide +kernel
theorem dX1_layTheSameAgain_61 : decode cX1_layTheSameAgain 61 = .ok (.getfield 15, 3) := by decide +kernel
theorem dX1_layTheSameAgain_64 : decode cX1_layTheSameAgain 64 = .ok (.iload_n 2, 1) := by decide +kernel
theorem dX1_layTheSameAgain_65 : decode cX1_layTheSameAgain 65 = .ok (.iaload, 1) := by decide +kernel
theorem dX1_layTheSameAgain_66 : decode cX1_layTheSameAgain 66 = .ok (.imul, 1) := by decide +kernel
theorem dX1_layTheSameAgain_67 : decode cX1_layTheSameAgain 67 = .ok (.isub, 1) := by decide +kernel
theorem dX1_layTheSameAgain_68 : decode cX1_layTheSameAgain 68 = .ok (.iastore, 1) := by decide +kernel
theorem dX1_layTheSameAgain_69 : decode cX1_layTheSameAgain 69 = .ok (.iinc 2 1, 3) := by decide +kernel
theorem dX1_layTheSameAgain_72 : decode cX1_layTheSameAgain 72 = .ok (.goto (-26), 3) := by decide +kernel
theorem dX1_layTheSameAgain_75 : decode cX1_layTheSameAgain 75 = .ok (.iload_n 1, 1) := by decide +kernel
theorem dX1_layTheSameAgain_76 : decode cX1_layTheSameAgain 76 = .ok (.ireturn, 1) := by decide +kernel
set_option maxRecDepth 20000 in
theorem ggX1_signFor_X3_ligatureAt : GoodIn wsX1_signFor wsX3_ligatureAt := goodIn_r _ [6, 7, 8, 9, 5, 10, 11, 12, 16, 17] (by decide +kernel) (by decide +kernel)
set_option maxRecDepth 20000 in
theorem gX1_signFor_X3_ligatureAt : GoodIn wsX1_signFor (wsV RX1 60 RX3 yX3_ligatureAt wsX3_ligatureAt) := goodIn_app (goodIn_of _ (by decide +kernel)) ggX1_signFor_X3_ligatureAt
set_option maxRecDepth 20000 in
theorem ggX1_signFor_X3_letterAt : GoodIn wsX1_signFor wsX3_letterAt := goodIn_r _ [10, 11, 12, 16, 17] (by decide +kernel) (by decide +kernel)
set_option maxRecDepth 20000 in
theorem gX1_signFor_X3_letterAt : GoodIn wsX1_signFor (wsV RX1 63 RX3 yX3_letterAt wsX3_letterAt) := goodIn_app (goodIn_of _ (by decide +kernel)) ggX1_signFor_X3_letterAt
theorem dX1_signFor_0 : decode cX1_signFor 0 = .ok (.aload_n 1, 1) := by decide +kernel
theorem dX1_signFor_1 : decode cX1_signFor 1 = .ok (.iload_n 2, 1) := by decide +kernel
theorem dX1_signFor_2 : decode cX1_signFor 2 = .ok (.invokevirtual 60, 3) := by decide +kernel
theorem dX1_signFor_5 : decode cX1_signFor 5 = .ok (.istore_n 3, 1) := by decide +kernel
theorem dX1_signFor_6 : decode cX1_signFor 6 = .ok (.iload_n 3, 1) := by decide +kernel
theorem dX1_signFor_7 : decode cX1_signFor 7 = .ok (.ifCond .lt 20, 3) := by decide +kernel
theorem dX1_signFor_10 : decode cX1_signFor 10 = .ok (.iload_n 3, 1) := by decide +kernel
theorem dX1_signFor_11 : decode cX1_signFor 11 = .ok (.bipush 29, 2) := by decide +kernel
theorem dX1_signFor_13 : decode cX1_signFor 13 = .ok (.if_icmp .ge 14, 3) := by decide +kernel
theorem dX1_signFor_16 : decode cX1_signFor 16 = .ok (.aload_n 0, 1) := by decide +kernel
theorem dX1_signFor_17 : decode cX1_signFor 17 = .ok (.getfield 9, 3) := by decide +kernel
theorem dX1_signFor_20 : decode cX1_signFor 20 = .ok (.iload_n 3, 1) := by decide +kernel
theorem dX1_signFor_21 : decode cX1_signFor 21 = .ok (.iaload, 1) := by decide +kernel
theorem dX1_signFor_22 : decode cX1_signFor 22 = .ok (.ifCond .le 5, 3) := by decide +kernel
theorem dX1_signFor_25 : decode cX1_signFor 25 = .ok (.iload_n 3, 1) := by decide +kernel
theorem dX1_signFor_26 : decode cX1_signFor 26 = .ok (.ireturn, 1) := by decide +kernel
theorem dX1_signFor_27 : decode cX1_signFor 27 = .ok (.aload_n 1, 1) := by decide +kernel
theorem dX1_signFor_28 : decode cX1_signFor 28 = .ok (.iload_n 2, 1) := by decide +kernel
theorem dX1_signFor_29 : decode cX1_signFor 29 = .ok (.invokevirtual 63, 3) := by decide +kernel
theorem dX1_signFor_32 : decode cX1_signFor 32 = .ok (.ireturn, 1) := by decide +kernel
theorem dX2_init_0 : decode cX2_init 0 = .ok (.aload_n 0, 1) := by decide +kernel
theorem dX2_init_1 : decode cX2_init 1 = .ok (.invokespecial 3, 3) := by decide +kernel
theorem dX2_init_4 : decode cX2_init 4 = .ok (.aload_n 0, 1) := by decide +kernel
theorem dX2_init_5 : decode cX2_init 5 = .ok (.sipush 290, 3) := by decide +kernel
theorem dX2_init_8 : decode cX2_init 8 = .ok (.newarray .int, 2) := by decide +kernel
theorem dX2_init_10 : decode cX2_init 10 = .ok (.putfield 9, 3) := by decide +kernel
theorem dX2_init_13 : decode cX2_init 13 = .ok (.return_, 1) := by decide +kernel
theorem dX2_at_0 : decode cX2_at 0 = .ok (.iload_n 1, 1) := by decide +kernel
theorem dX2_at_1 : decode cX2_at 1 = .ok (.ifCond .lt 19, 3) := by decide +kernel
theorem dX2_at_4 : decode cX2_at 4 = .ok (.iload_n 1, 1) := by decide +kernel
theorem dX2_at_5 : decode cX2_at 5 = .ok (.bipush 29, 2) := by decide +kernel
theorem dX2_at_7 : decode cX2_at 7 = .ok (.if_icmp .ge 13, 3) := by decide +kernel
theorem dX2_at_10 : decode cX2_at 10 = .ok (.iload_n 2, 1) := by decide +kernel
theorem dX2_at_11 : decode cX2_at 11 = .ok (.ifCond .lt 9, 3) := by decide +kernel
theorem dX2_at_14 : decode cX2_at 14 = .ok (.iload_n 2, 1) := by decide +kernel
theorem dX2_at_15 : decode cX2_at 15 = .ok (.bipush 10, 2) := by decide +kernel
theorem dX2_at_17 : decode cX2_at 17 = .ok (.if_icmp .lt 5, 3) := by decide +kernel
theorem dX2_at_20 : decode cX2_at 20 = .ok (.iconst 0, 1) := by decide +kernel
theorem dX2_at_21 : decode cX2_at 21 = .ok (.ireturn, 1) := by decide +kernel
theorem dX2_at_22 : decode cX2_at 22 = .ok (.aload_n 0, 1) := by decide +kernel
theorem dX2_at_23 : decode cX2_at 23 = .ok (.getfield 9, 3) := by decide +kernel
theorem dX2_at_26 : decode cX2_at 26 = .ok (.iload_n 1, 1) := by decide +kernel
theorem dX2_at_27 : decode cX2_at 27 = .ok (.bipush 10, 2) := by decide +kernel
theorem dX2_at_29 : decode cX2_at 29 = .ok (.imul, 1) := by decide +kernel
theorem dX2_at_30 : decode cX2_at 30 = .ok (.iload_n 2, 1) := by decide +kernel
theorem dX2_at_31 : decode cX2_at 31 = .ok (.iadd, 1) := by decide +kernel
theorem dX2_at_32 : decode cX2_at 32 = .ok (.iaload, 1) := by decide +kernel
theorem dX2_at_33 : decode cX2_at 33 = .ok (.ireturn, 1) := by decide +kernel
theorem dX2_change_0 : decode cX2_change 0 = .ok (.iload_n 1, 1) := by decide +kernel
theorem dX2_change_1 : decode cX2_change 1 = .ok (.ifCond .lt 19, 3) := by decide +kernel
theorem dX2_change_4 : decode cX2_change 4 = .ok (.iload_n 1, 1) := by decide +kernel
theorem dX2_change_5 : decode cX2_change 5 = .ok (.bipush 29, 2) := by decide +kernel
theorem dX2_change_7 : decode cX2_change 7 = .ok (.if_icmp .ge 13, 3) := by decide +kernel
theorem dX2_change_10 : decode cX2_change 10 = .ok (.iload_n 2, 1) := by decide +kernel
theorem dX2_change_11 : decode cX2_change 11 = .ok (.ifCond .lt 9, 3) := by decide +kernel
theorem dX2_change_14 : decode cX2_change 14 = .ok (.iload_n 2, 1) := by decide +kernel
theorem dX2_change_15 : decode cX2_change 15 = .ok (.bipush 10, 2) := by decide +kernel
theorem dX2_change_17 : decode cX2_change 17 = .ok (.if_icmp .lt 4, 3) := by decide +kernel
theorem dX2_change_20 : decode cX2_change 20 = .ok (.return_, 1) := by decide +kernel
theorem dX2_change_21 : decode cX2_change 21 = .ok (.aload_n 0, 1) := by decide +kernel
theorem dX2_change_22 : decode cX2_change 22 = .ok (.getfield 9, 3) := by decide +kernel
theorem dX2_change_25 : decode cX2_change 25 = .ok (.iload_n 1, 1) := by decide +kernel
theorem dX2_change_26 : decode cX2_change 26 = .ok (.bipush 10, 2) := by decide +kernel
theorem dX2_change_28 : decode cX2_change 28 = .ok (.imul, 1) := by decide +kernel
theorem dX2_change_29 : decode cX2_change 29 = .ok (.iload_n 2, 1) := by decide +kernel
theorem dX2_change_30 : decode cX2_change 30 = .ok (.iadd, 1) := by decide +kernel
theorem dX2_change_31 : decode cX2_change 31 = .ok (.dup2, 1) := by decide +kernel
theorem dX2_change_32 : decode cX2_change 32 = .ok (.iaload, 1) := by decide +kernel
theorem dX2_change_33 : decode cX2_change 33 = .ok (.iload_n 3, 1) := by decide +kernel
theorem dX2_change_34 : decode cX2_change 34 = .ok (.iadd, 1) := by decide +kernel
theorem dX2_change_35 : decode cX2_change 35 = .ok (.iastore, 1) := by decide +kernel
theorem dX2_change_36 : decode cX2_change 36 = .ok (.return_, 1) := by decide +kernel
set_option maxRecDepth 20000 in
theorem ggX2_ofSign_X2_at : GoodIn wsX2_ofSign wsX2_at := goodIn_r _ [5, 6, 7] (by decide +kernel) (by decide +kernel)
set_option maxRecDepth 20000 in
theorem gX2_ofSign_X2_at : GoodIn wsX2_ofSign (wsV RX2 15 RX2 yX2_at wsX2_at) := goodIn_app (goodIn_of _ (by decide +kernel)) ggX2_ofSign_X2_at
theorem dX2_ofSign_0 : decode cX2_ofSign 0 = .ok (.iconst 0, 1) := by decide +kernel
theorem dX2_ofSign_1 : decode cX2_ofSign 1 = .ok (.istore_n 2, 1) := by decide +kernel
theorem dX2_ofSign_2 : decode cX2_ofSign 2 = .ok (.iconst 0, 1) := by decide +kernel
theorem dX2_ofSign_3 : decode cX2_ofSign 3 = .ok (.istore_n 3, 1) := by decide +kernel
theorem dX2_ofSign_4 : decode cX2_ofSign 4 = .ok (.iload_n 3, 1) := by decide +kernel
theorem dX2_ofSign_5 : decode cX2_ofSign 5 = .ok (.bipush 10, 2) := by decide +kernel
theorem dX2_ofSign_7 : decode cX2_ofSign 7 = .ok (.if_icmp .ge 18, 3) := by decide +kernel
theorem dX2_ofSign_10 : decode cX2_ofSign 10 = .ok (.iload_n 2, 1) := by decide +kernel
theorem dX2_ofSign_11 : decode cX2_ofSign 11 = .ok (.aload_n 0, 1) := by decide +kernel
theorem dX2_ofSign_12 : decode cX2_ofSign 12 = .ok (.iload_n 1, 1) := by decide +kernel
theorem dX2_ofSign_13 : decode cX2_ofSign 13 = .ok (.iload_n 3, 1) := by decide +kernel
theorem dX2_ofSign_14 : decode cX2_ofSign 14 = .ok (.invokevirtual 15, 3) := by decide +kernel
theorem dX2_ofSign_17 : decode cX2_ofSign 17 = .ok (.iadd, 1) := by decide +kernel
theorem dX2_ofSign_18 : decode cX2_ofSign 18 = .ok (.istore_n 2, 1) := by decide +kernel
theorem dX2_ofSign_19 : decode cX2_ofSign 19 = .ok (.iinc 3 1, 3) := by decide +kernel
theorem dX2_ofSign_22 : decode cX2_ofSign 22 = .ok (.goto (-18), 3) := by decide +kernel
theorem dX2_ofSign_25 : decode cX2_ofSign 25 = .ok (.iload_n 2, 1) := by decide +kernel
theorem dX2_ofSign_26 : decode cX2_ofSign 26 = .ok (.ireturn, 1) := by decide +kernel
theorem dX2_inAll_0 : decode cX2_inAll 0 = .ok (.iconst 0, 1) := by decide +kernel
theorem dX2_inAll_1 : decode cX2_inAll 1 = .ok (.istore_n 1, 1) := by decide +kernel
theorem dX2_inAll_2 : decode cX2_inAll 2 = .ok (.iconst 0, 1) := by decide +kernel
theorem dX2_inAll_3 : decode cX2_inAll 3 = .ok (.istore_n 2, 1) := by decide +kernel
theorem dX2_inAll_4 : decode cX2_inAll 4 = .ok (.iload_n 2, 1) := by decide +kernel
theorem dX2_inAll_5 : decode cX2_inAll 5 = .ok (.aload_n 0, 1) := by decide +kernel
theorem dX2_inAll_6 : decode cX2_inAll 6 = .ok (.getfield 9, 3) := by decide +kernel
theorem dX2_inAll_9 : decode cX2_inAll 9 = .ok (.arraylength, 1) := by decide +kernel
theorem dX2_inAll_10 : decode cX2_inAll 10 = .ok (.if_icmp .ge 18, 3) := by decide +kernel
theorem dX2_inAll_13 : decode cX2_inAll 13 = .ok (.iload_n 1, 1) := by decide +kernel
theorem dX2_inAll_14 : decode cX2_inAll 14 = .ok (.aload_n 0, 1) := by decide +kernel
theorem dX2_inAll_15 : decode cX2_inAll 15 = .ok (.getfield 9, 3) := by decide +kernel
theorem dX2_inAll_18 : decode cX2_inAll 18 = .ok (.iload_n 2, 1) := by decide +kernel
theorem dX2_inAll_19 : decode cX2_inAll 19 = .ok (.iaload, 1) := by decide +kernel
theorem dX2_inAll_20 : decode cX2_inAll 20 = .ok (.iadd, 1) := by decide +kernel
theorem dX2_inAll_21 : decode cX2_inAll 21 = .ok (.istore_n 1, 1) := by decide +kernel
theorem dX2_inAll_22 : decode cX2_inAll 22 = .ok (.iinc 2 1, 3) := by decide +kernel
theorem dX2_inAll_25 : decode cX2_inAll 25 = .ok (.goto (-21), 3) := by decide +kernel
theorem dX2_inAll_28 : decode cX2_inAll 28 = .ok (.iload_n 1, 1) := by decide +kernel
theorem dX2_inAll_29 : decode cX2_inAll 29 = .ok (.ireturn, 1) := by decide +kernel
theorem dX2_wearInAll_0 : decode cX2_wearInAll 0 = .ok (.iconst 0, 1) := by decide +kernel
theorem dX2_wearInAll_1 : decode cX2_wearInAll 1 = .ok (.istore_n 1, 1) := by decide +kernel
theorem dX2_wearInAll_2 : decode cX2_wearInAll 2 = .ok (.iconst 0, 1) := by decide +kernel
theorem dX2_wearInAll_3 : decode cX2_wearInAll 3 = .ok (.istore_n 2, 1) := by decide +kernel
theorem dX2_wearInAll_4 : decode cX2_wearInAll 4 = .ok (.iload_n 2, 1) := by decide +kernel
theorem dX2_wearInAll_5 : decode cX2_wearInAll 5 = .ok (.aload_n 0, 1) := by decide +kernel
theorem dX2_wearInAll_6 : decode cX2_wearInAll 6 = .ok (.getfield 9, 3) := by decide +kernel
theorem dX2_wearInAll_9 : decode cX2_wearInAll 9 = .ok (.arraylength, 1) := by decide +kernel
theorem dX2_wearInAll_10 : decode cX2_wearInAll 10 = .ok (.if_icmp .ge 23, 3) := by decide +kernel
theorem dX2_wearInAll_13 : decode cX2_wearInAll 13 = .ok (.iload_n 1, 1) := by decide +kernel
theorem dX2_wearInAll_14 : decode cX2_wearInAll 14 = .ok (.aload_n 0, 1) := by decide +kernel
theorem dX2_wearInAll_15 : decode cX2_wearInAll 15 = .ok (.getfield 9, 3) := by decide +kernel
theorem dX2_wearInAll_18 : decode cX2_wearInAll 18 = .ok (.iload_n 2, 1) := by decide +kernel
theorem dX2_wearInAll_19 : decode cX2_wearInAll 19 = .ok (.iaload, 1) := by decide +kernel
theorem dX2_wearInAll_20 : decode cX2_wearInAll 20 = .ok (.iload_n 2, 1) := by decide +kernel
theorem dX2_wearInAll_21 : decode cX2_wearInAll 21 = .ok (.bipush 10, 2) := by decide +kernel
theorem dX2_wearInAll_23 : decode cX2_wearInAll 23 = .ok (.irem, 1) := by decide +kernel
theorem dX2_wearInAll_24 : decode cX2_wearInAll 24 = .ok (.imul, 1) := by decide +kernel
theorem dX2_wearInAll_25 : decode cX2_wearInAll 25 = .ok (.iadd, 1) := by decide +kernel
theorem dX2_wearInAll_26 : decode cX2_wearInAll 26 = .ok (.istore_n 1, 1) := by decide +kernel
theorem dX2_wearInAll_27 : decode cX2_wearInAll 27 = .ok (.iinc 2 1, 3) := by decide +kernel
theorem dX2_wearInAll_30 : decode cX2_wearInAll 30 = .ok (.goto (-26), 3) := by decide +kernel
theorem dX2_wearInAll_33 : decode cX2_wearInAll 33 = .ok (.iload_n 1, 1) := by decide +kernel
theorem dX2_wearInAll_34 : decode cX2_wearInAll 34 = .ok (.ireturn, 1) := by decide +kernel
theorem dX2_greatestWear_0 : decode cX2_greatestWear 0 = .ok (.iconst (-1), 1) := by decide +kernel
theorem dX2_greatestWear_1 : decode cX2_greatestWear 1 = .ok (.istore_n 1, 1) := by decide +kernel
theorem dX2_greatestWear_2 : decode cX2_greatestWear 2 = .ok (.iconst 0, 1) := by decide +kernel
theorem dX2_greatestWear_3 : decode cX2_greatestWear 3 = .ok (.istore_n 2, 1) := by decide +kernel
theorem dX2_greatestWear_4 : decode cX2_greatestWear 4 = .ok (.iload_n 2, 1) := by decide +kernel
theorem dX2_greatestWear_5 : decode cX2_greatestWear 5 = .ok (.aload_n 0, 1) := by decide +kernel
theorem dX2_greatestWear_6 : decode cX2_greatestWear 6 = .ok (.getfield 9, 3) := by decide +kernel
theorem dX2_greatestWear_9 : decode cX2_greatestWear 9 = .ok (.arraylength, 1) := by decide +kernel
theorem dX2_greatestWear_10 : decode cX2_greatestWear 10 = .ok (.if_icmp .ge 27, 3) := by decide +kernel
theorem dX2_greatestWear_13 : decode cX2_greatestWear 13 = .ok (.aload_n 0, 1) := by decide +kernel
theorem dX2_greatestWear_14 : decode cX2_greatestWear 14 = .ok (.getfield 9, 3) := by decide +kernel
theorem dX2_greatestWear_17 : decode cX2_greatestWear 17 = .ok (.iload_n 2, 1) := by decide +kernel
theorem dX2_greatestWear_18 : decode cX2_greatestWear 18 = .ok (.iaload, 1) := by decide +kernel
theorem dX2_greatestWear_19 : decode cX2_greatestWear 19 = .ok (.ifCond .le 12, 3) := by decide +kernel
theorem dX2_greatestWear_22 : decode cX2_greatestWear 22 = .ok (.iload_n 1, 1) := by decide +kernel
theorem dX2_greatestWear_23 : decode cX2_greatestWear 23 = .ok (.iload_n 2, 1) := by decide +kernel
theorem dX2_greatestWear_24 : decode cX2_greatestWear 24 = .ok (.bipush 10, 2) := by decide +kernel
theorem dX2_greatestWear_26 : decode cX2_greatestWear 26 = .ok (.irem, 1) := by decide +kernel
theorem dX2_greatestWear_27 : decode cX2_greatestWear 27 = .ok (.invokestatic 19, 3) := by decide +kernel
theorem dX2_greatestWear_30 : decode cX2_greatestWear 30 = .ok (.istore_n 1, 1) := by decide +kernel
theorem dX2_greatestWear_31 : decode cX2_greatestWear 31 = .ok (.iinc 2 1, 3) := by decide +kernel
theorem dX2_greatestWear_34 : decode cX2_greatestWear 34 = .ok (.goto (-30), 3) := by decide +kernel
theorem dX2_greatestWear_37 : decode cX2_greatestWear 37 = .ok (.iload_n 1, 1) := by decide +kernel
theorem dX2_greatestWear_38 : decode cX2_greatestWear 38 = .ok (.ireturn, 1) := by decide +kernel
set_option maxRecDepth 20000 in
theorem ggX2_metalFrom_X2_at : GoodIn wsX2_metalFrom wsX2_at := goodIn_r _ [5, 6, 10] (by decide +kernel) (by decide +kernel)
set_option maxRecDepth 20000 in
theorem gX2_metalFrom_X2_at : GoodIn wsX2_metalFrom (wsV RX2 15 RX2 yX2_at wsX2_at) := goodIn_app (goodIn_of _ (by decide +kernel)) ggX2_metalFrom_X2_at
set_option maxRecDepth 20000 in
theorem ggX2_metalFrom_X4_isLigature : GoodIn wsX2_metalFrom wsX4_isLigature := goodIn_r _ [9] (by decide +kernel) (by decide +kernel)
set_option maxRecDepth 20000 in
theorem gX2_metalFrom_X4_isLigature_n24 : GoodIn wsX2_metalFrom (wsX4_isLigature) := ggX2_metalFrom_X4_isLigature
theorem dX2_metalFrom_0 : decode cX2_metalFrom 0 = .ok (.iconst 0, 1) := by decide +kernel
theorem dX2_metalFrom_1 : decode cX2_metalFrom 1 = .ok (.istore_n 2, 1) := by decide +kernel
theorem dX2_metalFrom_2 : decode cX2_metalFrom 2 = .ok (.iconst 0, 1) := by decide +kernel
theorem dX2_metalFrom_3 : decode cX2_metalFrom 3 = .ok (.istore_n 3, 1) := by decide +kernel
theorem dX2_metalFrom_4 : decode cX2_metalFrom 4 = .ok (.iload_n 3, 1) := by decide +kernel
theorem dX2_metalFrom_5 : decode cX2_metalFrom 5 = .ok (.bipush 29, 2) := by decide +kernel
theorem dX2_metalFrom_7 : decode cX2_metalFrom 7 = .ok (.if_icmp .ge 48, 3) := by decide +kernel
theorem dX2_metalFrom_10 : decode cX2_metalFrom 10 = .ok (.iload_n 1, 1) := by decide +kernel
theorem dX2_metalFrom_11 : decode cX2_metalFrom 11 = .ok (.istore 4, 2) := by decide +kernel
theorem dX2_metalFrom_13 : decode cX2_metalFrom 13 = .ok (.iload 4, 2) := by decide +kernel
theorem dX2_metalFrom_15 : decode cX2_metalFrom 15 = .ok (.bipush 10, 2) := by decide +kernel
theorem dX2_metalFrom_17 : decode cX2_metalFrom 17 = .ok (.if_icmp .ge 32, 3) := by decide +kernel
theorem dX2_metalFrom_20 : decode cX2_metalFrom 20 = .ok (.iload_n 2, 1) := by decide +kernel
theorem dX2_metalFrom_21 : decode cX2_metalFrom 21 = .ok (.aload_n 0, 1) := by decide +kernel
theorem dX2_metalFrom_22 : decode cX2_metalFrom 22 = .ok (.iload_n 3, 1) := by decide +kernel
theorem dX2_metalFrom_23 : decode cX2_metalFrom 23 = .ok (.iload 4, 2) := by decide +kernel
theorem dX2_metalFrom_25 : decode cX2_metalFrom 25 = .ok (.invokevirtual 15, 3) := by decide +kernel
theorem dX2_metalFrom_28 : decode cX2_metalFrom 28 = .ok (.iload_n 3, 1) := by decide +kernel
theorem dX2_metalFrom_29 : decode cX2_metalFrom 29 = .ok (.invokestatic 24, 3) := by decide +kernel
theorem dX2_metalFrom_32 : decode cX2_metalFrom 32 = .ok (.ifCond .eq 7, 3) := by decide +kernel
theorem dX2_metalFrom_35 : decode cX2_metalFrom 35 = .ok (.iconst 2, 1) := by decide +kernel
theorem dX2_metalFrom_36 : decode cX2_metalFrom 36 = .ok (.goto 4, 3) := by decide +kernel
theorem dX2_metalFrom_39 : decode cX2_metalFrom 39 = .ok (.iconst 1, 1) := by decide +kernel
theorem dX2_metalFrom_40 : decode cX2_metalFrom 40 = .ok (.imul, 1) := by decide +kernel
theorem dX2_metalFrom_41 : decode cX2_metalFrom 41 = .ok (.iadd, 1) := by decide +kernel
theorem dX2_metalFrom_42 : decode cX2_metalFrom 42 = .ok (.istore_n 2, 1) := by decide +kernel
theorem dX2_metalFrom_43 : decode cX2_metalFrom 43 = .ok (.iinc 4 1, 3) := by decide +kernel
theorem dX2_metalFrom_46 : decode cX2_metalFrom 46 = .ok (.goto (-33), 3) := by decide +kernel
theorem dX2_metalFrom_49 : decode cX2_metalFrom 49 = .ok (.iinc 3 1, 3) := by decide +kernel
theorem dX2_metalFrom_52 : decode cX2_metalFrom 52 = .ok (.goto (-48), 3) := by decide +kernel
theorem dX2_metalFrom_55 : decode cX2_metalFrom 55 = .ok (.iload_n 2, 1) := by decide +kernel
theorem dX2_metalFrom_56 : decode cX2_metalFrom 56 = .ok (.ireturn, 1) := by decide +kernel
set_option maxRecDepth 20000 in
theorem ggX2_dropFrom_X2_empty : GoodIn wsX2_dropFrom wsX2_empty := goodIn_r _ [5, 6, 7, 8, 4, 9, 10, 11, 12, 13, 14, 15] (by decide +kernel) (by decide +kernel)
set_option maxRecDepth 20000 in
theorem gX2_dropFrom_X2_empty : GoodIn wsX2_dropFrom (wsV RX2 28 RX2 yX2_empty wsX2_empty) := goodIn_app (goodIn_of _ (by decide +kernel)) ggX2_dropFrom_X2_empty
theorem dX2_dropFrom_0 : decode cX2_dropFrom 0 = .ok (.iconst 0, 1) := by decide +kernel
theorem dX2_dropFrom_1 : decode cX2_dropFrom 1 = .ok (.istore_n 2, 1) := by decide +kernel
theorem dX2_dropFrom_2 : decode cX2_dropFrom 2 = .ok (.iconst 0, 1) := by decide +kernel
theorem dX2_dropFrom_3 : decode cX2_dropFrom 3 = .ok (.istore_n 3, 1) := by decide +kernel
theorem dX2_dropFrom_4 : decode cX2_dropFrom 4 = .ok (.iload_n 3, 1) := by decide +kernel
theorem dX2_dropFrom_5 : decode cX2_dropFrom 5 = .ok (.bipush 29, 2) := by decide +kernel
theorem dX2_dropFrom_7 : decode cX2_dropFrom 7 = .ok (.if_icmp .ge 35, 3) := by decide +kernel
theorem dX2_dropFrom_10 : decode cX2_dropFrom 10 = .ok (.iload_n 1, 1) := by decide +kernel
theorem dX2_dropFrom_11 : decode cX2_dropFrom 11 = .ok (.istore 4, 2) := by decide +kernel
theorem dX2_dropFrom_13 : decode cX2_dropFrom 13 = .ok (.iload 4, 2) := by decide +kernel
theorem dX2_dropFrom_15 : decode cX2_dropFrom 15 = .ok (.bipush 10, 2) := by decide +kernel
theorem dX2_dropFrom_17 : decode cX2_dropFrom 17 = .ok (.if_icmp .ge 19, 3) := by decide +kernel
theorem dX2_dropFrom_20 : decode cX2_dropFrom 20 = .ok (.iload_n 2, 1) := by decide +kernel
theorem dX2_dropFrom_21 : decode cX2_dropFrom 21 = .ok (.aload_n 0, 1) := by decide +kernel
theorem dX2_dropFrom_22 : decode cX2_dropFrom 22 = .ok (.iload_n 3, 1) := by decide +kernel
theorem dX2_dropFrom_23 : decode cX2_dropFrom 23 = .ok (.iload 4, 2) := by decide +kernel
theorem dX2_dropFrom_25 : decode cX2_dropFrom 25 = .ok (.invokevirtual 28, 3) := by decide +kernel
theorem dX2_dropFrom_28 : decode cX2_dropFrom 28 = .ok (.iadd, 1) := by decide +kernel
theorem dX2_dropFrom_29 : decode cX2_dropFrom 29 = .ok (.istore_n 2, 1) := by decide +kernel
theorem dX2_dropFrom_30 : decode cX2_dropFrom 30 = .ok (.iinc 4 1, 3) := by decide +kernel
theorem dX2_dropFrom_33 : decode cX2_dropFrom 33 = .ok (.goto (-20), 3) := by decide +kernel
theorem dX2_dropFrom_36 : decode cX2_dropFrom 36 = .ok (.iinc 3 1, 3) := by decide +kernel
theorem dX2_dropFrom_39 : decode cX2_dropFrom 39 = .ok (.goto (-35), 3) := by decide +kernel
theorem dX2_dropFrom_42 : decode cX2_dropFrom 42 = .ok (.iload_n 2, 1) := by decide +kernel
theorem dX2_dropFrom_43 : decode cX2_dropFrom 43 = .ok (.ireturn, 1) := by decide +kernel
end
section
set_option maxRecDepth 20000 in
theorem ggX2_moveLeastWorn_X2_moveAt : GoodIn wsX2_moveLeastWorn wsX2_moveAt := goodIn_r _ [5, 6, 7, 8, 9, 10, 11, 12, 4, 13, 14, 15, 16, 17, 18, 19] (by decide +kernel) (by decide +kernel)
set_option maxRecDepth 20000 in
theorem gX2_moveLeastWorn_X2_moveAt : GoodIn wsX2_moveLeastWorn (wsV RX2 31 RX2 yX2_moveAt wsX2_moveAt) := goodIn_app (goodIn_of _ (by decide +kernel)) ggX2_moveLeastWorn_X2_moveAt
theorem dX2_moveLeastWorn_0 : decode cX2_moveLeastWorn 0 = .ok (.iconst 0, 1) := by decide +kernel
theorem dX2_moveLeastWorn_1 : decode cX2_moveLeastWorn 1 = .ok (.istore 4, 2) := by decide +kernel
theorem dX2_moveLeastWorn_3 : decode cX2_moveLeastWorn 3 = .ok (.iload_n 3, 1) := by decide +kernel
theorem dX2_moveLeastWorn_4 : decode cX2_moveLeastWorn 4 = .ok (.istore 5, 2) := by decide +kernel
theorem dX2_moveLeastWorn_6 : decode cX2_moveLeastWorn 6 = .ok (.iconst 0, 1) := by decide +kernel
theorem dX2_moveLeastWorn_7 : decode cX2_moveLeastWorn 7 = .ok (.istore 6, 2) := by decide +kernel
theorem dX2_moveLeastWorn_9 : decode cX2_moveLeastWorn 9 = .ok (.iload 6, 2) := by decide +kernel
theorem dX2_moveLeastWorn_11 : decode cX2_moveLeastWorn 11 = .ok (.bipush 10, 2) := by decide +kernel
theorem dX2_moveLeastWorn_13 : decode cX2_moveLeastWorn 13 = .ok (.if_icmp .ge 38, 3) := by decide +kernel
theorem dX2_moveLeastWorn_16 : decode cX2_moveLeastWorn 16 = .ok (.aload_n 0, 1) := by decide +kernel
theorem dX2_moveLeastWorn_17 : decode cX2_moveLeastWorn 17 = .ok (.aload_n 1, 1) := by decide +kernel
theorem dX2_moveLeastWorn_18 : decode cX2_moveLeastWorn 18 = .ok (.iload_n 2, 1) := by decide +kernel
theorem dX2_moveLeastWorn_19 : decode cX2_moveLeastWorn 19 = .ok (.iload 6, 2) := by decide +kernel
theorem dX2_moveLeastWorn_21 : decode cX2_moveLeastWorn 21 = .ok (.iload 5, 2) := by decide +kernel
theorem dX2_moveLeastWorn_23 : decode cX2_moveLeastWorn 23 = .ok (.invokevirtual 31, 3) := by decide +kernel
theorem dX2_moveLeastWorn_26 : decode cX2_moveLeastWorn 26 = .ok (.istore 7, 2) := by decide +kernel
theorem dX2_moveLeastWorn_28 : decode cX2_moveLeastWorn 28 = .ok (.iload 5, 2) := by decide +kernel
theorem dX2_moveLeastWorn_30 : decode cX2_moveLeastWorn 30 = .ok (.iload 7, 2) := by decide +kernel
theorem dX2_moveLeastWorn_32 : decode cX2_moveLeastWorn 32 = .ok (.isub, 1) := by decide +kernel
theorem dX2_moveLeastWorn_33 : decode cX2_moveLeastWorn 33 = .ok (.istore 5, 2) := by decide +kernel
theorem dX2_moveLeastWorn_35 : decode cX2_moveLeastWorn 35 = .ok (.iload 4, 2) := by decide +kernel
theorem dX2_moveLeastWorn_37 : decode cX2_moveLeastWorn 37 = .ok (.iload 7, 2) := by decide +kernel
theorem dX2_moveLeastWorn_39 : decode cX2_moveLeastWorn 39 = .ok (.iload 6, 2) := by decide +kernel
theorem dX2_moveLeastWorn_41 : decode cX2_moveLeastWorn 41 = .ok (.imul, 1) := by decide +kernel
theorem dX2_moveLeastWorn_42 : decode cX2_moveLeastWorn 42 = .ok (.iadd, 1) := by decide +kernel
theorem dX2_moveLeastWorn_43 : decode cX2_moveLeastWorn 43 = .ok (.istore 4, 2) := by decide +kernel
theorem dX2_moveLeastWorn_45 : decode cX2_moveLeastWorn 45 = .ok (.iinc 6 1, 3) := by decide +kernel
theorem dX2_moveLeastWorn_48 : decode cX2_moveLeastWorn 48 = .ok (.goto (-39), 3) := by decide +kernel
theorem dX2_moveLeastWorn_51 : decode cX2_moveLeastWorn 51 = .ok (.iload 4, 2) := by decide +kernel
theorem dX2_moveLeastWorn_53 : decode cX2_moveLeastWorn 53 = .ok (.ireturn, 1) := by decide +kernel
set_option maxRecDepth 20000 in
theorem ggX2_moveMostWorn_X2_moveAt : GoodIn wsX2_moveMostWorn wsX2_moveAt := goodIn_r _ [5, 6, 7, 8, 9, 10, 11, 12, 4, 13, 14, 15, 16, 17, 18, 19] (by decide +kernel) (by decide +kernel)
set_option maxRecDepth 20000 in
theorem gX2_moveMostWorn_X2_moveAt : GoodIn wsX2_moveMostWorn (wsV RX2 31 RX2 yX2_moveAt wsX2_moveAt) := goodIn_app (goodIn_of _ (by decide +kernel)) ggX2_moveMostWorn_X2_moveAt
theorem dX2_moveMostWorn_0 : decode cX2_moveMostWorn 0 = .ok (.iconst 0, 1) := by decide +kernel
theorem dX2_moveMostWorn_1 : decode cX2_moveMostWorn 1 = .ok (.istore 4, 2) := by decide +kernel
theorem dX2_moveMostWorn_3 : decode cX2_moveMostWorn 3 = .ok (.iload_n 3, 1) := by decide +kernel
theorem dX2_moveMostWorn_4 : decode cX2_moveMostWorn 4 = .ok (.istore 5, 2) := by decide +kernel
theorem dX2_moveMostWorn_6 : decode cX2_moveMostWorn 6 = .ok (.bipush 9, 2) := by decide +kernel
theorem dX2_moveMostWorn_8 : decode cX2_moveMostWorn 8 = .ok (.istore 6, 2) := by decide +kernel
theorem dX2_moveMostWorn_10 : decode cX2_moveMostWorn 10 = .ok (.iload 6, 2) := by decide +kernel
theorem dX2_moveMostWorn_12 : decode cX2_moveMostWorn 12 = .ok (.ifCond .lt 38, 3) := by decide +kernel
theorem dX2_moveMostWorn_15 : decode cX2_moveMostWorn 15 = .ok (.aload_n 0, 1) := by decide +kernel
theorem dX2_moveMostWorn_16 : decode cX2_moveMostWorn 16 = .ok (.aload_n 1, 1) := by decide +kernel
theorem dX2_moveMostWorn_17 : decode cX2_moveMostWorn 17 = .ok (.iload_n 2, 1) := by decide +kernel
theorem dX2_moveMostWorn_18 : decode cX2_moveMostWorn 18 = .ok (.iload 6, 2) := by decide +kernel
theorem dX2_moveMostWorn_20 : decode cX2_moveMostWorn 20 = .ok (.iload 5, 2) := by decide +kernel
theorem dX2_moveMostWorn_22 : decode cX2_moveMostWorn 22 = .ok (.invokevirtual 31, 3) := by decide +kernel
theorem dX2_moveMostWorn_25 : decode cX2_moveMostWorn 25 = .ok (.istore 7, 2) := by decide +kernel
theorem dX2_moveMostWorn_27 : decode cX2_moveMostWorn 27 = .ok (.iload 5, 2) := by decide +kernel
theorem dX2_moveMostWorn_29 : decode cX2_moveMostWorn 29 = .ok (.iload 7, 2) := by decide +kernel
theorem dX2_moveMostWorn_31 : decode cX2_moveMostWorn 31 = .ok (.isub, 1) := by decide +kernel
theorem dX2_moveMostWorn_32 : decode cX2_moveMostWorn 32 = .ok (.istore 5, 2) := by decide +kernel
theorem dX2_moveMostWorn_34 : decode cX2_moveMostWorn 34 = .ok (.iload 4, 2) := by decide +kernel
theorem dX2_moveMostWorn_36 : decode cX2_moveMostWorn 36 = .ok (.iload 7, 2) := by decide +kernel
theorem dX2_moveMostWorn_38 : decode cX2_moveMostWorn 38 = .ok (.iload 6, 2) := by decide +kernel
theorem dX2_moveMostWorn_40 : decode cX2_moveMostWorn 40 = .ok (.imul, 1) := by decide +kernel
theorem dX2_moveMostWorn_41 : decode cX2_moveMostWorn 41 = .ok (.iadd, 1) := by decide +kernel
theorem dX2_moveMostWorn_42 : decode cX2_moveMostWorn 42 = .ok (.istore 4, 2) := by decide +kernel
theorem dX2_moveMostWorn_44 : decode cX2_moveMostWorn 44 = .ok (.iinc 6 (-1), 3) := by decide +kernel
theorem dX2_moveMostWorn_47 : decode cX2_moveMostWorn 47 = .ok (.goto (-37), 3) := by decide +kernel
theorem dX2_moveMostWorn_50 : decode cX2_moveMostWorn 50 = .ok (.iload 4, 2) := by decide +kernel
theorem dX2_moveMostWorn_52 : decode cX2_moveMostWorn 52 = .ok (.ireturn, 1) := by decide +kernel
set_option maxRecDepth 20000 in
theorem ggX2_wearBy_X2_empty : GoodIn wsX2_wearBy wsX2_empty := goodIn_r _ [5, 6, 7, 8, 4, 9, 10, 11, 12, 13, 14, 15] (by decide +kernel) (by decide +kernel)
set_option maxRecDepth 20000 in
theorem gX2_wearBy_X2_empty : GoodIn wsX2_wearBy (wsV RX2 28 RX2 yX2_empty wsX2_empty) := goodIn_app (goodIn_of _ (by decide +kernel)) ggX2_wearBy_X2_empty
set_option maxRecDepth 20000 in
theorem ggX2_wearBy_X2_change : GoodIn wsX2_wearBy wsX2_change := goodIn_r _ [14, 10, 15] (by decide +kernel) (by decide +kernel)
set_option maxRecDepth 20000 in
theorem gX2_wearBy_X2_change : GoodIn wsX2_wearBy (wsV RX2 35 RX2 yX2_change wsX2_change) := goodIn_app (goodIn_of _ (by decide +kernel)) ggX2_wearBy_X2_change
theorem dX2_wearBy_0 : decode cX2_wearBy 0 = .ok (.iconst 0, 1) := by decide +kernel
theorem dX2_wearBy_1 : decode cX2_wearBy 1 = .ok (.istore_n 2, 1) := by decide +kernel
theorem dX2_wearBy_2 : decode cX2_wearBy 2 = .ok (.iconst 0, 1) := by decide +kernel
theorem dX2_wearBy_3 : decode cX2_wearBy 3 = .ok (.istore_n 3, 1) := by decide +kernel
theorem dX2_wearBy_4 : decode cX2_wearBy 4 = .ok (.iload_n 3, 1) := by decide +kernel
theorem dX2_wearBy_5 : decode cX2_wearBy 5 = .ok (.bipush 29, 2) := by decide +kernel
theorem dX2_wearBy_7 : decode cX2_wearBy 7 = .ok (.if_icmp .ge 61, 3) := by decide +kernel
theorem dX2_wearBy_10 : decode cX2_wearBy 10 = .ok (.bipush 9, 2) := by decide +kernel
theorem dX2_wearBy_12 : decode cX2_wearBy 12 = .ok (.istore 4, 2) := by decide +kernel
theorem dX2_wearBy_14 : decode cX2_wearBy 14 = .ok (.iload 4, 2) := by decide +kernel
theorem dX2_wearBy_16 : decode cX2_wearBy 16 = .ok (.ifCond .lt 46, 3) := by decide +kernel
theorem dX2_wearBy_19 : decode cX2_wearBy 19 = .ok (.aload_n 0, 1) := by decide +kernel
theorem dX2_wearBy_20 : decode cX2_wearBy 20 = .ok (.iload_n 3, 1) := by decide +kernel
theorem dX2_wearBy_21 : decode cX2_wearBy 21 = .ok (.iload 4, 2) := by decide +kernel
theorem dX2_wearBy_23 : decode cX2_wearBy 23 = .ok (.invokevirtual 28, 3) := by decide +kernel
theorem dX2_wearBy_26 : decode cX2_wearBy 26 = .ok (.istore 5, 2) := by decide +kernel
theorem dX2_wearBy_28 : decode cX2_wearBy 28 = .ok (.iload 4, 2) := by decide +kernel
theorem dX2_wearBy_30 : decode cX2_wearBy 30 = .ok (.iload_n 1, 1) := by decide +kernel
theorem dX2_wearBy_31 : decode cX2_wearBy 31 = .ok (.iadd, 1) := by decide +kernel
theorem dX2_wearBy_32 : decode cX2_wearBy 32 = .ok (.bipush 10, 2) := by decide +kernel
theorem dX2_wearBy_34 : decode cX2_wearBy 34 = .ok (.if_icmp .ge 17, 3) := by decide +kernel
theorem dX2_wearBy_37 : decode cX2_wearBy 37 = .ok (.aload_n 0, 1) := by decide +kernel
theorem dX2_wearBy_38 : decode cX2_wearBy 38 = .ok (.iload_n 3, 1) := by decide +kernel
theorem dX2_wearBy_39 : decode cX2_wearBy 39 = .ok (.iload 4, 2) := by decide +kernel
theorem dX2_wearBy_41 : decode cX2_wearBy 41 = .ok (.iload_n 1, 1) := by decide +kernel
theorem dX2_wearBy_42 : decode cX2_wearBy 42 = .ok (.iadd, 1) := by decide +kernel
theorem dX2_wearBy_43 : decode cX2_wearBy 43 = .ok (.iload 5, 2) := by decide +kernel
theorem dX2_wearBy_45 : decode cX2_wearBy 45 = .ok (.invokevirtual 35, 3) := by decide +kernel
theorem dX2_wearBy_48 : decode cX2_wearBy 48 = .ok (.goto 8, 3) := by decide +kernel
theorem dX2_wearBy_51 : decode cX2_wearBy 51 = .ok (.iload_n 2, 1) := by decide +kernel
theorem dX2_wearBy_52 : decode cX2_wearBy 52 = .ok (.iload 5, 2) := by decide +kernel
theorem dX2_wearBy_54 : decode cX2_wearBy 54 = .ok (.iadd, 1) := by decide +kernel
theorem dX2_wearBy_55 : decode cX2_wearBy 55 = .ok (.istore_n 2, 1) := by decide +kernel
theorem dX2_wearBy_56 : decode cX2_wearBy 56 = .ok (.iinc 4 (-1), 3) := by decide +kernel
theorem dX2_wearBy_59 : decode cX2_wearBy 59 = .ok (.goto (-45), 3) := by decide +kernel
theorem dX2_wearBy_62 : decode cX2_wearBy 62 = .ok (.iinc 3 1, 3) := by decide +kernel
theorem dX2_wearBy_65 : decode cX2_wearBy 65 = .ok (.goto (-61), 3) := by decide +kernel
theorem dX2_wearBy_68 : decode cX2_wearBy 68 = .ok (.iload_n 2, 1) := by decide +kernel
theorem dX2_wearBy_69 : decode cX2_wearBy 69 = .ok (.ireturn, 1) := by decide +kernel
theorem dX2_digestOnto_0 : decode cX2_digestOnto 0 = .ok (.lload_n 1, 1) := by decide +kernel
theorem dX2_digestOnto_1 : decode cX2_digestOnto 1 = .ok (.lstore_n 3, 1) := by decide +kernel
theorem dX2_digestOnto_2 : decode cX2_digestOnto 2 = .ok (.iconst 0, 1) := by decide +kernel
theorem dX2_digestOnto_3 : decode cX2_digestOnto 3 = .ok (.istore 5, 2) := by decide +kernel
theorem dX2_digestOnto_5 : decode cX2_digestOnto 5 = .ok (.iload 5, 2) := by decide +kernel
theorem dX2_digestOnto_7 : decode cX2_digestOnto 7 = .ok (.aload_n 0, 1) := by decide +kernel
theorem dX2_digestOnto_8 : decode cX2_digestOnto 8 = .ok (.getfield 9, 3) := by decide +kernel
theorem dX2_digestOnto_11 : decode cX2_digestOnto 11 = .ok (.arraylength, 1) := by decide +kernel
theorem dX2_digestOnto_12 : decode cX2_digestOnto 12 = .ok (.if_icmp .ge 24, 3) := by decide +kernel
theorem dX2_digestOnto_15 : decode cX2_digestOnto 15 = .ok (.lload_n 3, 1) := by decide +kernel
theorem dX2_digestOnto_16 : decode cX2_digestOnto 16 = .ok (.ldc2_w 39, 3) := by decide +kernel
theorem dX2_digestOnto_19 : decode cX2_digestOnto 19 = .ok (.lmul, 1) := by decide +kernel
theorem dX2_digestOnto_20 : decode cX2_digestOnto 20 = .ok (.aload_n 0, 1) := by decide +kernel
theorem dX2_digestOnto_21 : decode cX2_digestOnto 21 = .ok (.getfield 9, 3) := by decide +kernel
theorem dX2_digestOnto_24 : decode cX2_digestOnto 24 = .ok (.iload 5, 2) := by decide +kernel
theorem dX2_digestOnto_26 : decode cX2_digestOnto 26 = .ok (.iaload, 1) := by decide +kernel
theorem dX2_digestOnto_27 : decode cX2_digestOnto 27 = .ok (.i2l, 1) := by decide +kernel
theorem dX2_digestOnto_28 : decode cX2_digestOnto 28 = .ok (.ladd, 1) := by decide +kernel
theorem dX2_digestOnto_29 : decode cX2_digestOnto 29 = .ok (.lstore_n 3, 1) := by decide +kernel
theorem dX2_digestOnto_30 : decode cX2_digestOnto 30 = .ok (.iinc 5 1, 3) := by decide +kernel
theorem dX2_digestOnto_33 : decode cX2_digestOnto 33 = .ok (.goto (-28), 3) := by decide +kernel
theorem dX2_digestOnto_36 : decode cX2_digestOnto 36 = .ok (.lload_n 3, 1) := by decide +kernel
theorem dX2_digestOnto_37 : decode cX2_digestOnto 37 = .ok (.lreturn, 1) := by decide +kernel
set_option maxRecDepth 20000 in
theorem ggX2_moveAt_X2_at : GoodIn wsX2_moveAt wsX2_at := goodIn_r _ [9, 10, 15] (by decide +kernel) (by decide +kernel)
set_option maxRecDepth 20000 in
theorem gX2_moveAt_X2_at : GoodIn wsX2_moveAt (wsV RX2 15 RX2 yX2_at wsX2_at) := goodIn_app (goodIn_of _ (by decide +kernel)) ggX2_moveAt_X2_at
set_option maxRecDepth 20000 in
theorem ggX2_moveAt_X2_change : GoodIn wsX2_moveAt wsX2_change := goodIn_r _ [14, 10, 15] (by decide +kernel) (by decide +kernel)
set_option maxRecDepth 20000 in
theorem gX2_moveAt_X2_change : GoodIn wsX2_moveAt (wsV RX2 35 RX2 yX2_change wsX2_change) := goodIn_app (goodIn_of _ (by decide +kernel)) ggX2_moveAt_X2_change
theorem dX2_moveAt_0 : decode cX2_moveAt 0 = .ok (.iload 4, 2) := by decide +kernel
theorem dX2_moveAt_2 : decode cX2_moveAt 2 = .ok (.aload_n 0, 1) := by decide +kernel
theorem dX2_moveAt_3 : decode cX2_moveAt 3 = .ok (.iload_n 2, 1) := by decide +kernel
theorem dX2_moveAt_4 : decode cX2_moveAt 4 = .ok (.iload_n 3, 1) := by decide +kernel
theorem dX2_moveAt_5 : decode cX2_moveAt 5 = .ok (.invokevirtual 15, 3) := by decide +kernel
theorem dX2_moveAt_8 : decode cX2_moveAt 8 = .ok (.invokestatic 41, 3) := by decide +kernel
theorem dX2_moveAt_11 : decode cX2_moveAt 11 = .ok (.istore 5, 2) := by decide +kernel
theorem dX2_moveAt_13 : decode cX2_moveAt 13 = .ok (.aload_n 0, 1) := by decide +kernel
theorem dX2_moveAt_14 : decode cX2_moveAt 14 = .ok (.iload_n 2, 1) := by decide +kernel
theorem dX2_moveAt_15 : decode cX2_moveAt 15 = .ok (.iload_n 3, 1) := by decide +kernel
theorem dX2_moveAt_16 : decode cX2_moveAt 16 = .ok (.iload 5, 2) := by decide +kernel
theorem dX2_moveAt_18 : decode cX2_moveAt 18 = .ok (.ineg, 1) := by decide +kernel
theorem dX2_moveAt_19 : decode cX2_moveAt 19 = .ok (.invokevirtual 35, 3) := by decide +kernel
theorem dX2_moveAt_22 : decode cX2_moveAt 22 = .ok (.aload_n 1, 1) := by decide +kernel
theorem dX2_moveAt_23 : decode cX2_moveAt 23 = .ok (.iload_n 2, 1) := by decide +kernel
theorem dX2_moveAt_24 : decode cX2_moveAt 24 = .ok (.iload_n 3, 1) := by decide +kernel
theorem dX2_moveAt_25 : decode cX2_moveAt 25 = .ok (.iload 5, 2) := by decide +kernel
theorem dX2_moveAt_27 : decode cX2_moveAt 27 = .ok (.invokevirtual 35, 3) := by decide +kernel
theorem dX2_moveAt_30 : decode cX2_moveAt 30 = .ok (.iload 5, 2) := by decide +kernel
theorem dX2_moveAt_32 : decode cX2_moveAt 32 = .ok (.ireturn, 1) := by decide +kernel
set_option maxRecDepth 20000 in
theorem ggX2_empty_X2_at : GoodIn wsX2_empty wsX2_at := goodIn_r _ [5, 6, 11] (by decide +kernel) (by decide +kernel)
set_option maxRecDepth 20000 in
theorem gX2_empty_X2_at : GoodIn wsX2_empty (wsV RX2 15 RX2 yX2_at wsX2_at) := goodIn_app (goodIn_of _ (by decide +kernel)) ggX2_empty_X2_at
set_option maxRecDepth 20000 in
theorem ggX2_empty_X2_change : GoodIn wsX2_empty wsX2_change := goodIn_r _ [10, 6, 11] (by decide +kernel) (by decide +kernel)
set_option maxRecDepth 20000 in
theorem gX2_empty_X2_change : GoodIn wsX2_empty (wsV RX2 35 RX2 yX2_change wsX2_change) := goodIn_app (goodIn_of _ (by decide +kernel)) ggX2_empty_X2_change
theorem dX2_empty_0 : decode cX2_empty 0 = .ok (.aload_n 0, 1) := by decide +kernel
theorem dX2_empty_1 : decode cX2_empty 1 = .ok (.iload_n 1, 1) := by decide +kernel
theorem dX2_empty_2 : decode cX2_empty 2 = .ok (.iload_n 2, 1) := by decide +kernel
theorem dX2_empty_3 : decode cX2_empty 3 = .ok (.invokevirtual 15, 3) := by decide +kernel
theorem dX2_empty_6 : decode cX2_empty 6 = .ok (.istore_n 3, 1) := by decide +kernel
theorem dX2_empty_7 : decode cX2_empty 7 = .ok (.aload_n 0, 1) := by decide +kernel
theorem dX2_empty_8 : decode cX2_empty 8 = .ok (.iload_n 1, 1) := by decide +kernel
theorem dX2_empty_9 : decode cX2_empty 9 = .ok (.iload_n 2, 1) := by decide +kernel
theorem dX2_empty_10 : decode cX2_empty 10 = .ok (.iload_n 3, 1) := by decide +kernel
theorem dX2_empty_11 : decode cX2_empty 11 = .ok (.ineg, 1) := by decide +kernel
theorem dX2_empty_12 : decode cX2_empty 12 = .ok (.invokevirtual 35, 3) := by decide +kernel
theorem dX2_empty_15 : decode cX2_empty 15 = .ok (.iload_n 3, 1) := by decide +kernel
theorem dX2_empty_16 : decode cX2_empty 16 = .ok (.ireturn, 1) := by decide +kernel
theorem dX3_init_0 : decode cX3_init 0 = .ok (.aload_n 0, 1) := by decide +kernel
theorem dX3_init_1 : decode cX3_init 1 = .ok (.invokespecial 3, 3) := by decide +kernel
theorem dX3_init_4 : decode cX3_init 4 = .ok (.aload_n 0, 1) := by decide +kernel
theorem dX3_init_5 : decode cX3_init 5 = .ok (.bipush 6, 2) := by decide +kernel
theorem dX3_init_7 : decode cX3_init 7 = .ok (.newarray .int, 2) := by decide +kernel
theorem dX3_init_9 : decode cX3_init 9 = .ok (.putfield 9, 3) := by decide +kernel
theorem dX3_init_12 : decode cX3_init 12 = .ok (.aload_n 0, 1) := by decide +kernel
theorem dX3_init_13 : decode cX3_init 13 = .ok (.bipush 6, 2) := by decide +kernel
theorem dX3_init_15 : decode cX3_init 15 = .ok (.putfield 15, 3) := by decide +kernel
theorem dX3_init_18 : decode cX3_init 18 = .ok (.return_, 1) := by decide +kernel
theorem dX3_spell_0 : decode cX3_spell 0 = .ok (.iload_n 1, 1) := by decide +kernel
theorem dX3_spell_1 : decode cX3_spell 1 = .ok (.iconst 1, 1) := by decide +kernel
theorem dX3_spell_2 : decode cX3_spell 2 = .ok (.if_icmp .lt 9, 3) := by decide +kernel
theorem dX3_spell_5 : decode cX3_spell 5 = .ok (.iload_n 1, 1) := by decide +kernel
theorem dX3_spell_6 : decode cX3_spell 6 = .ok (.ldc 19, 2) := by decide +kernel
theorem dX3_spell_8 : decode cX3_spell 8 = .ok (.if_icmp .le 5, 3) := by decide +kernel
theorem dX3_spell_11 : decode cX3_spell 11 = .ok (.iconst 0, 1) := by decide +kernel
theorem dX3_spell_12 : decode cX3_spell 12 = .ok (.ireturn, 1) := by decide +kernel
theorem dX3_spell_13 : decode cX3_spell 13 = .ok (.iload_n 1, 1) := by decide +kernel
theorem dX3_spell_14 : decode cX3_spell 14 = .ok (.istore_n 2, 1) := by decide +kernel
theorem dX3_spell_15 : decode cX3_spell 15 = .ok (.iconst 5, 1) := by decide +kernel
theorem dX3_spell_16 : decode cX3_spell 16 = .ok (.istore_n 3, 1) := by decide +kernel
theorem dX3_spell_17 : decode cX3_spell 17 = .ok (.iload_n 3, 1) := by decide +kernel
theorem dX3_spell_18 : decode cX3_spell 18 = .ok (.ifCond .lt 46, 3) := by decide +kernel
theorem dX3_spell_21 : decode cX3_spell 21 = .ok (.iload_n 2, 1) := by decide +kernel
theorem dX3_spell_22 : decode cX3_spell 22 = .ok (.ifCond .le 42, 3) := by decide +kernel
theorem dX3_spell_25 : decode cX3_spell 25 = .ok (.iload_n 2, 1) := by decide +kernel
theorem dX3_spell_26 : decode cX3_spell 26 = .ok (.bipush 27, 2) := by decide +kernel
theorem dX3_spell_28 : decode cX3_spell 28 = .ok (.irem, 1) := by decide +kernel
theorem dX3_spell_29 : decode cX3_spell 29 = .ok (.istore 4, 2) := by decide +kernel
theorem dX3_spell_31 : decode cX3_spell 31 = .ok (.iload 4, 2) := by decide +kernel
theorem dX3_spell_33 : decode cX3_spell 33 = .ok (.ifCond .ne 5, 3) := by decide +kernel
theorem dX3_spell_36 : decode cX3_spell 36 = .ok (.iconst 0, 1) := by decide +kernel
theorem dX3_spell_37 : decode cX3_spell 37 = .ok (.ireturn, 1) := by decide +kernel
theorem dX3_spell_38 : decode cX3_spell 38 = .ok (.aload_n 0, 1) := by decide +kernel
theorem dX3_spell_39 : decode cX3_spell 39 = .ok (.getfield 9, 3) := by decide +kernel
theorem dX3_spell_42 : decode cX3_spell 42 = .ok (.iload_n 3, 1) := by decide +kernel
theorem dX3_spell_43 : decode cX3_spell 43 = .ok (.iload 4, 2) := by decide +kernel
theorem dX3_spell_45 : decode cX3_spell 45 = .ok (.iconst 1, 1) := by decide +kernel
theorem dX3_spell_46 : decode cX3_spell 46 = .ok (.isub, 1) := by decide +kernel
theorem dX3_spell_47 : decode cX3_spell 47 = .ok (.iastore, 1) := by decide +kernel
theorem dX3_spell_48 : decode cX3_spell 48 = .ok (.aload_n 0, 1) := by decide +kernel
theorem dX3_spell_49 : decode cX3_spell 49 = .ok (.iload_n 3, 1) := by decide +kernel
theorem dX3_spell_50 : decode cX3_spell 50 = .ok (.putfield 15, 3) := by decide +kernel
theorem dX3_spell_53 : decode cX3_spell 53 = .ok (.iload_n 2, 1) := by decide +kernel
theorem dX3_spell_54 : decode cX3_spell 54 = .ok (.bipush 27, 2) := by decide +kernel
theorem dX3_spell_56 : decode cX3_spell 56 = .ok (.idiv, 1) := by decide +kernel
theorem dX3_spell_57 : decode cX3_spell 57 = .ok (.istore_n 2, 1) := by decide +kernel
theorem dX3_spell_58 : decode cX3_spell 58 = .ok (.iinc 3 (-1), 3) := by decide +kernel
theorem dX3_spell_61 : decode cX3_spell 61 = .ok (.goto (-44), 3) := by decide +kernel
theorem dX3_spell_64 : decode cX3_spell 64 = .ok (.iconst 1, 1) := by decide +kernel
theorem dX3_spell_65 : decode cX3_spell 65 = .ok (.ireturn, 1) := by decide +kernel
theorem dX3_firstPlace_0 : decode cX3_firstPlace 0 = .ok (.aload_n 0, 1) := by decide +kernel
theorem dX3_firstPlace_1 : decode cX3_firstPlace 1 = .ok (.getfield 15, 3) := by decide +kernel
theorem dX3_firstPlace_4 : decode cX3_firstPlace 4 = .ok (.ireturn, 1) := by decide +kernel
theorem dX3_letterAt_0 : decode cX3_letterAt 0 = .ok (.iload_n 1, 1) := by decide +kernel
theorem dX3_letterAt_1 : decode cX3_letterAt 1 = .ok (.ifCond .lt 17, 3) := by decide +kernel
theorem dX3_letterAt_4 : decode cX3_letterAt 4 = .ok (.iload_n 1, 1) := by decide +kernel
theorem dX3_letterAt_5 : decode cX3_letterAt 5 = .ok (.aload_n 0, 1) := by decide +kernel
theorem dX3_letterAt_6 : decode cX3_letterAt 6 = .ok (.getfield 15, 3) := by decide +kernel
theorem dX3_letterAt_9 : decode cX3_letterAt 9 = .ok (.if_icmp .lt 9, 3) := by decide +kernel
theorem dX3_letterAt_12 : decode cX3_letterAt 12 = .ok (.iload_n 1, 1) := by decide +kernel
theorem dX3_letterAt_13 : decode cX3_letterAt 13 = .ok (.bipush 6, 2) := by decide +kernel
theorem dX3_letterAt_15 : decode cX3_letterAt 15 = .ok (.if_icmp .lt 5, 3) := by decide +kernel
theorem dX3_letterAt_18 : decode cX3_letterAt 18 = .ok (.iconst (-1), 1) := by decide +kernel
theorem dX3_letterAt_19 : decode cX3_letterAt 19 = .ok (.ireturn, 1) := by decide +kernel
theorem dX3_letterAt_20 : decode cX3_letterAt 20 = .ok (.aload_n 0, 1) := by decide +kernel
theorem dX3_letterAt_21 : decode cX3_letterAt 21 = .ok (.getfield 9, 3) := by decide +kernel
theorem dX3_letterAt_24 : decode cX3_letterAt 24 = .ok (.iload_n 1, 1) := by decide +kernel
theorem dX3_letterAt_25 : decode cX3_letterAt 25 = .ok (.iaload, 1) := by decide +kernel
theorem dX3_letterAt_26 : decode cX3_letterAt 26 = .ok (.ireturn, 1) := by decide +kernel
set_option maxRecDepth 20000 in
theorem ggX3_ligatureAt_X3_letterAt : GoodIn wsX3_ligatureAt wsX3_letterAt := goodIn_r _ [5, 6, 7, 8, 9] (by decide +kernel) (by decide +kernel)
set_option maxRecDepth 20000 in
theorem gX3_ligatureAt_X3_letterAt : GoodIn wsX3_ligatureAt (wsV RX3 20 RX3 yX3_letterAt wsX3_letterAt) := goodIn_app (goodIn_of _ (by decide +kernel)) ggX3_ligatureAt_X3_letterAt
theorem dX3_ligatureAt_0 : decode cX3_ligatureAt 0 = .ok (.aload_n 0, 1) := by decide +kernel
theorem dX3_ligatureAt_1 : decode cX3_ligatureAt 1 = .ok (.iload_n 1, 1) := by decide +kernel
theorem dX3_ligatureAt_2 : decode cX3_ligatureAt 2 = .ok (.invokevirtual 20, 3) := by decide +kernel
theorem dX3_ligatureAt_5 : decode cX3_ligatureAt 5 = .ok (.iconst 5, 1) := by decide +kernel
theorem dX3_ligatureAt_6 : decode cX3_ligatureAt 6 = .ok (.if_icmp .eq 5, 3) := by decide +kernel
theorem dX3_ligatureAt_9 : decode cX3_ligatureAt 9 = .ok (.iconst (-1), 1) := by decide +kernel
theorem dX3_ligatureAt_10 : decode cX3_ligatureAt 10 = .ok (.ireturn, 1) := by decide +kernel
theorem dX3_ligatureAt_11 : decode cX3_ligatureAt 11 = .ok (.aload_n 0, 1) := by decide +kernel
theorem dX3_ligatureAt_12 : decode cX3_ligatureAt 12 = .ok (.iload_n 1, 1) := by decide +kernel
theorem dX3_ligatureAt_13 : decode cX3_ligatureAt 13 = .ok (.iconst 1, 1) := by decide +kernel
theorem dX3_ligatureAt_14 : decode cX3_ligatureAt 14 = .ok (.iadd, 1) := by decide +kernel
theorem dX3_ligatureAt_15 : decode cX3_ligatureAt 15 = .ok (.invokevirtual 20, 3) := by decide +kernel
theorem dX3_ligatureAt_18 : decode cX3_ligatureAt 18 = .ok (.lookupswitch 43 #[(5, 40), (8, 34), (11, 37)], 34) := by decide +kernel
theorem dX3_ligatureAt_52 : decode cX3_ligatureAt 52 = .ok (.bipush 26, 2) := by decide +kernel
theorem dX3_ligatureAt_54 : decode cX3_ligatureAt 54 = .ok (.ireturn, 1) := by decide +kernel
theorem dX3_ligatureAt_55 : decode cX3_ligatureAt 55 = .ok (.bipush 27, 2) := by decide +kernel
theorem dX3_ligatureAt_57 : decode cX3_ligatureAt 57 = .ok (.ireturn, 1) := by decide +kernel
theorem dX3_ligatureAt_58 : decode cX3_ligatureAt 58 = .ok (.bipush 28, 2) := by decide +kernel
theorem dX3_ligatureAt_60 : decode cX3_ligatureAt 60 = .ok (.ireturn, 1) := by decide +kernel
theorem dX3_ligatureAt_61 : decode cX3_ligatureAt 61 = .ok (.iconst (-1), 1) := by decide +kernel
theorem dX3_ligatureAt_62 : decode cX3_ligatureAt 62 = .ok (.ireturn, 1) := by decide +kernel
set_option maxRecDepth 20000 in
theorem ggX3_howOften_X3_letterAt : GoodIn wsX3_howOften wsX3_letterAt := goodIn_r _ [6, 1, 7, 8, 9] (by decide +kernel) (by decide +kernel)
set_option maxRecDepth 20000 in
theorem gX3_howOften_X3_letterAt : GoodIn wsX3_howOften (wsV RX3 20 RX3 yX3_letterAt wsX3_letterAt) := goodIn_app (goodIn_of _ (by decide +kernel)) ggX3_howOften_X3_letterAt
theorem dX3_howOften_0 : decode cX3_howOften 0 = .ok (.iconst 0, 1) := by decide +kernel
theorem dX3_howOften_1 : decode cX3_howOften 1 = .ok (.istore_n 2, 1) := by decide +kernel
theorem dX3_howOften_2 : decode cX3_howOften 2 = .ok (.aload_n 0, 1) := by decide +kernel
theorem dX3_howOften_3 : decode cX3_howOften 3 = .ok (.getfield 15, 3) := by decide +kernel
theorem dX3_howOften_6 : decode cX3_howOften 6 = .ok (.istore_n 3, 1) := by decide +kernel
theorem dX3_howOften_7 : decode cX3_howOften 7 = .ok (.iload_n 3, 1) := by decide +kernel
theorem dX3_howOften_8 : decode cX3_howOften 8 = .ok (.bipush 6, 2) := by decide +kernel
theorem dX3_howOften_10 : decode cX3_howOften 10 = .ok (.if_icmp .ge 21, 3) := by decide +kernel
theorem dX3_howOften_13 : decode cX3_howOften 13 = .ok (.aload_n 0, 1) := by decide +kernel
theorem dX3_howOften_14 : decode cX3_howOften 14 = .ok (.iload_n 3, 1) := by decide +kernel
theorem dX3_howOften_15 : decode cX3_howOften 15 = .ok (.invokevirtual 20, 3) := by decide +kernel
theorem dX3_howOften_18 : decode cX3_howOften 18 = .ok (.iload_n 1, 1) := by decide +kernel
theorem dX3_howOften_19 : decode cX3_howOften 19 = .ok (.if_icmp .ne 6, 3) := by decide +kernel
theorem dX3_howOften_22 : decode cX3_howOften 22 = .ok (.iinc 2 1, 3) := by decide +kernel
theorem dX3_howOften_25 : decode cX3_howOften 25 = .ok (.iinc 3 1, 3) := by decide +kernel
theorem dX3_howOften_28 : decode cX3_howOften 28 = .ok (.goto (-21), 3) := by decide +kernel
theorem dX3_howOften_31 : decode cX3_howOften 31 = .ok (.iload_n 2, 1) := by decide +kernel
theorem dX3_howOften_32 : decode cX3_howOften 32 = .ok (.ireturn, 1) := by decide +kernel
set_option maxRecDepth 20000 in
theorem ggX4_init_X2_init : GoodIn wsX4_init wsX2_init := goodIn_r _ [20, 21, 2, 3, 22, 23, 34] (by decide +kernel) (by decide +kernel)
set_option maxRecDepth 20000 in
theorem gX4_init_X2_init_n9 : GoodIn wsX4_init (wsX2_init) := ggX4_init_X2_init
set_option maxRecDepth 20000 in
theorem ggX4_init_X3_init : GoodIn wsX4_init wsX3_init := goodIn_r _ [25, 26, 2, 3, 22, 27, 28, 46, 47] (by decide +kernel) (by decide +kernel)
set_option maxRecDepth 20000 in
theorem gX4_init_X3_init_n28 : GoodIn wsX4_init (wsX3_init) := ggX4_init_X3_init
set_option maxRecDepth 20000 in
theorem ggX4_init_X1_init : GoodIn wsX4_init wsX1_init := goodIn_r _ [30, 31, 2, 3, 22, 32, 33, 48, 49] (by decide +kernel) (by decide +kernel)
set_option maxRecDepth 20000 in
theorem gX4_init_X1_init_n35 : GoodIn wsX4_init (wsX1_init) := ggX4_init_X1_init
theorem dX4_init_0 : decode cX4_init 0 = .ok (.aload_n 0, 1) := by decide +kernel
theorem dX4_init_1 : decode cX4_init 1 = .ok (.invokespecial 1, 3) := by decide +kernel
theorem dX4_init_4 : decode cX4_init 4 = .ok (.aload_n 0, 1) := by decide +kernel
theorem dX4_init_5 : decode cX4_init 5 = .ok (.new 7, 3) := by decide +kernel
theorem dX4_init_8 : decode cX4_init 8 = .ok (.dup, 1) := by decide +kernel
theorem dX4_init_9 : decode cX4_init 9 = .ok (.invokespecial 9, 3) := by decide +kernel
theorem dX4_init_12 : decode cX4_init 12 = .ok (.putfield 10, 3) := by decide +kernel
theorem dX4_init_15 : decode cX4_init 15 = .ok (.aload_n 0, 1) := by decide +kernel
theorem dX4_init_16 : decode cX4_init 16 = .ok (.bipush 6, 2) := by decide +kernel
theorem dX4_init_18 : decode cX4_init 18 = .ok (.anewarray 16, 3) := by decide +kernel
theorem dX4_init_21 : decode cX4_init 21 = .ok (.putfield 18, 3) := by decide +kernel
theorem dX4_init_24 : decode cX4_init 24 = .ok (.aload_n 0, 1) := by decide +kernel
theorem dX4_init_25 : decode cX4_init 25 = .ok (.sipush 500, 3) := by decide +kernel
theorem dX4_init_28 : decode cX4_init 28 = .ok (.putfield 22, 3) := by decide +kernel
theorem dX4_init_31 : decode cX4_init 31 = .ok (.aload_n 0, 1) := by decide +kernel
theorem dX4_init_32 : decode cX4_init 32 = .ok (.new 26, 3) := by decide +kernel
theorem dX4_init_35 : decode cX4_init 35 = .ok (.dup, 1) := by decide +kernel
theorem dX4_init_36 : decode cX4_init 36 = .ok (.invokespecial 28, 3) := by decide +kernel
theorem dX4_init_39 : decode cX4_init 39 = .ok (.putfield 29, 3) := by decide +kernel
theorem dX4_init_42 : decode cX4_init 42 = .ok (.aload_n 0, 1) := by decide +kernel
theorem dX4_init_43 : decode cX4_init 43 = .ok (.new 33, 3) := by decide +kernel
theorem dX4_init_46 : decode cX4_init 46 = .ok (.dup, 1) := by decide +kernel
theorem dX4_init_47 : decode cX4_init 47 = .ok (.invokespecial 35, 3) := by decide +kernel
theorem dX4_init_50 : decode cX4_init 50 = .ok (.putfield 36, 3) := by decide +kernel
theorem dX4_init_53 : decode cX4_init 53 = .ok (.return_, 1) := by decide +kernel
set_option maxRecDepth 20000 in
theorem ggX4_cast_X4_needSign : GoodIn wsX4_cast wsX4_needSign := goodIn_ca (goodIn_r _ [9, 10, 11] (by decide +kernel) (by decide +kernel)) (goodIn_sub (fun _ h => List.mem_cons_of_mem _ (List.mem_append_left _ (List.mem_append_right _ h))) (by decide +kernel))
set_option maxRecDepth 20000 in
theorem gX4_cast_X4_needSign : GoodIn wsX4_cast (va_wsS RX4 40 yX4_needSign wsX4_needSign) := goodIn_app (goodIn_of _ (by decide +kernel)) ggX4_cast_X4_needSign
set_option maxRecDepth 20000 in
theorem ggX4_cast_X4_needMany : GoodIn wsX4_cast wsX4_needMany := goodIn_ca (goodIn_r _ [14, 15, 16] (by decide +kernel) (by decide +kernel)) (goodIn_sub (fun _ h => List.mem_cons_of_mem _ (List.mem_append_right _ h)) (by decide +kernel))
set_option maxRecDepth 20000 in
theorem gX4_cast_X4_needMany : GoodIn wsX4_cast (va_wsS RX4 44 yX4_needMany wsX4_needMany) := goodIn_app (goodIn_of _ (by decide +kernel)) ggX4_cast_X4_needMany
set_option maxRecDepth 20000 in
theorem ggX4_cast_X4_isLigature : GoodIn wsX4_cast wsX4_isLigature := goodIn_r _ [19] (by decide +kernel) (by decide +kernel)
set_option maxRecDepth 20000 in
theorem gX4_cast_X4_isLigature : GoodIn wsX4_cast (va_wsS RX4 47 yX4_isLigature wsX4_isLigature) := goodIn_app (goodIn_of _ (by decide +kernel)) ggX4_cast_X4_isLigature
set_option maxRecDepth 20000 in
theorem ggX4_cast_X2_ofSign : GoodIn wsX4_cast wsX2_ofSign := goodIn_r _ [24, 25, 26, 27, 23, 28, 29, 45] (by decide +kernel) (by decide +kernel)
set_option maxRecDepth 20000 in
theorem gX4_cast_X2_ofSign : GoodIn wsX4_cast (wsV RX4 58 RX2 yX2_ofSign wsX2_ofSign) := goodIn_app (goodIn_of _ (by decide +kernel)) ggX4_cast_X2_ofSign
set_option maxRecDepth 20000 in
theorem ggX4_cast_X2_change : GoodIn wsX4_cast wsX2_change := goodIn_r _ [33, 29, 45] (by decide +kernel) (by decide +kernel)
set_option maxRecDepth 20000 in
theorem gX4_cast_X2_change : GoodIn wsX4_cast (wsV RX4 64 RX2 yX2_change wsX2_change) := goodIn_app (goodIn_of _ (by decide +kernel)) ggX4_cast_X2_change
theorem dX4_cast_0 : decode cX4_cast 0 = .ok (.iload_n 1, 1) := by decide +kernel
theorem dX4_cast_1 : decode cX4_cast 1 = .ok (.invokestatic 40, 3) := by decide +kernel
theorem dX4_cast_4 : decode cX4_cast 4 = .ok (.iload_n 2, 1) := by decide +kernel
theorem dX4_cast_5 : decode cX4_cast 5 = .ok (.invokestatic 44, 3) := by decide +kernel
theorem dX4_cast_8 : decode cX4_cast 8 = .ok (.iload_n 2, 1) := by decide +kernel
theorem dX4_cast_9 : decode cX4_cast 9 = .ok (.iload_n 1, 1) := by decide +kernel
theorem dX4_cast_10 : decode cX4_cast 10 = .ok (.invokestatic 47, 3) := by decide +kernel
theorem dX4_cast_13 : decode cX4_cast 13 = .ok (.ifCond .eq 7, 3) := by decide +kernel
theorem dX4_cast_16 : decode cX4_cast 16 = .ok (.iconst 3, 1) := by decide +kernel
theorem dX4_cast_17 : decode cX4_cast 17 = .ok (.goto 4, 3) := by decide +kernel
theorem dX4_cast_20 : decode cX4_cast 20 = .ok (.iconst 2, 1) := by decide +kernel
theorem dX4_cast_21 : decode cX4_cast 21 = .ok (.imul, 1) := by decide +kernel
theorem dX4_cast_22 : decode cX4_cast 22 = .ok (.istore_n 3, 1) := by decide +kernel
theorem dX4_cast_23 : decode cX4_cast 23 = .ok (.iload_n 3, 1) := by decide +kernel
theorem dX4_cast_24 : decode cX4_cast 24 = .ok (.aload_n 0, 1) := by decide +kernel
theorem dX4_cast_25 : decode cX4_cast 25 = .ok (.getfield 22, 3) := by decide +kernel
theorem dX4_cast_28 : decode cX4_cast 28 = .ok (.if_icmp .le 13, 3) := by decide +kernel
theorem dX4_cast_31 : decode cX4_cast 31 = .ok (.new 51, 3) := by decide +kernel
theorem dX4_cast_34 : decode cX4_cast 34 = .ok (.dup, 1) := by decide +kernel
theorem dX4_cast_35 : decode cX4_cast 35 = .ok (.ldc 53, 2) := by decide +kernel
theorem dX4_cast_37 : decode cX4_cast 37 = .ok (.invokespecial 55, 3) := by decide +kernel
theorem dX4_cast_40 : decode cX4_cast 40 = .ok (.athrow, 1) := by decide +kernel
theorem dX4_cast_41 : decode cX4_cast 41 = .ok (.aload_n 0, 1) := by decide +kernel
theorem dX4_cast_42 : decode cX4_cast 42 = .ok (.getfield 10, 3) := by decide +kernel
theorem dX4_cast_45 : decode cX4_cast 45 = .ok (.iload_n 1, 1) := by decide +kernel
theorem dX4_cast_46 : decode cX4_cast 46 = .ok (.invokevirtual 58, 3) := by decide +kernel
theorem dX4_cast_49 : decode cX4_cast 49 = .ok (.iload_n 2, 1) := by decide +kernel
theorem dX4_cast_50 : decode cX4_cast 50 = .ok (.iadd, 1) := by decide +kernel
theorem dX4_cast_51 : decode cX4_cast 51 = .ok (.sipush 999, 3) := by decide +kernel
theorem dX4_cast_54 : decode cX4_cast 54 = .ok (.if_icmp .le 13, 3) := by decide +kernel
theorem dX4_cast_57 : decode cX4_cast 57 = .ok (.new 51, 3) := by decide +kernel
theorem dX4_cast_60 : decode cX4_cast 60 = .ok (.dup, 1) := by decide +kernel
theorem dX4_cast_61 : decode cX4_cast 61 = .ok (.ldc 62, 2) := by decide +kernel
theorem dX4_cast_63 : decode cX4_cast 63 = .ok (.invokespecial 55, 3) := by decide +kernel
theorem dX4_cast_66 : decode cX4_cast 66 = .ok (.athrow, 1) := by decide +kernel
theorem dX4_cast_67 : decode cX4_cast 67 = .ok (.aload_n 0, 1) := by decide +kernel
theorem dX4_cast_68 : decode cX4_cast 68 = .ok (.dup, 1) := by decide +kernel
theorem dX4_cast_69 : decode cX4_cast 69 = .ok (.getfield 22, 3) := by decide +kernel
theorem dX4_cast_72 : decode cX4_cast 72 = .ok (.iload_n 3, 1) := by decide +kernel
theorem dX4_cast_73 : decode cX4_cast 73 = .ok (.isub, 1) := by decide +kernel
theorem dX4_cast_74 : decode cX4_cast 74 = .ok (.putfield 22, 3) := by decide +kernel
theorem dX4_cast_77 : decode cX4_cast 77 = .ok (.aload_n 0, 1) := by decide +kernel
theorem dX4_cast_78 : decode cX4_cast 78 = .ok (.getfield 10, 3) := by decide +kernel
theorem dX4_cast_81 : decode cX4_cast 81 = .ok (.iload_n 1, 1) := by decide +kernel
theorem dX4_cast_82 : decode cX4_cast 82 = .ok (.iconst 0, 1) := by decide +kernel
theorem dX4_cast_83 : decode cX4_cast 83 = .ok (.iload_n 2, 1) := by decide +kernel
theorem dX4_cast_84 : decode cX4_cast 84 = .ok (.invokevirtual 64, 3) := by decide +kernel
theorem dX4_cast_87 : decode cX4_cast 87 = .ok (.aload_n 0, 1) := by decide +kernel
theorem dX4_cast_88 : decode cX4_cast 88 = .ok (.dup, 1) := by decide +kernel
theorem dX4_cast_89 : decode cX4_cast 89 = .ok (.getfield 68, 3) := by decide +kernel
theorem dX4_cast_92 : decode cX4_cast 92 = .ok (.iload_n 2, 1) := by decide +kernel
theorem dX4_cast_93 : decode cX4_cast 93 = .ok (.iadd, 1) := by decide +kernel
theorem dX4_cast_94 : decode cX4_cast 94 = .ok (.putfield 68, 3) := by decide +kernel
theorem dX4_cast_97 : decode cX4_cast 97 = .ok (.aload_n 0, 1) := by decide +kernel
theorem dX4_cast_98 : decode cX4_cast 98 = .ok (.getfield 22, 3) := by decide +kernel
theorem dX4_cast_101 : decode cX4_cast 101 = .ok (.ireturn, 1) := by decide +kernel
set_option maxRecDepth 20000 in
theorem ggX4_melt_X2_metalFrom : GoodIn wsX4_melt wsX2_metalFrom := goodIn_r _ [12, 13, 14, 15, 11, 16, 17, 18, 19, 20, 44] (by decide +kernel) (by decide +kernel)
set_option maxRecDepth 20000 in
theorem gX4_melt_X2_metalFrom : GoodIn wsX4_melt (wsV RX4 76 RX2 yX2_metalFrom wsX2_metalFrom) := goodIn_app (goodIn_of _ (by decide +kernel)) ggX4_melt_X2_metalFrom
set_option maxRecDepth 20000 in
theorem ggX4_melt_X2_dropFrom : GoodIn wsX4_melt wsX2_dropFrom := goodIn_r _ [24, 25, 26, 27, 11, 28, 13, 14, 15, 16, 17, 29, 30, 31, 32, 44] (by decide +kernel) (by decide +kernel)
set_option maxRecDepth 20000 in
theorem gX4_melt_X2_dropFrom : GoodIn wsX4_melt (wsV RX4 81 RX2 yX2_dropFrom wsX2_dropFrom) := goodIn_app (goodIn_of _ (by decide +kernel)) ggX4_melt_X2_dropFrom
theorem dX4_melt_0 : decode cX4_melt 0 = .ok (.iload_n 1, 1) := by decide +kernel
theorem dX4_melt_1 : decode cX4_melt 1 = .ok (.iconst 1, 1) := by decide +kernel
theorem dX4_melt_2 : decode cX4_melt 2 = .ok (.if_icmp .lt 9, 3) := by decide +kernel
theorem dX4_melt_5 : decode cX4_melt 5 = .ok (.iload_n 1, 1) := by decide +kernel
theorem dX4_melt_6 : decode cX4_melt 6 = .ok (.bipush 10, 2) := by decide +kernel
theorem dX4_melt_8 : decode cX4_melt 8 = .ok (.if_icmp .lt 13, 3) := by decide +kernel
theorem dX4_melt_11 : decode cX4_melt 11 = .ok (.new 71, 3) := by decide +kernel
theorem dX4_melt_14 : decode cX4_melt 14 = .ok (.dup, 1) := by decide +kernel
theorem dX4_melt_15 : decode cX4_melt 15 = .ok (.ldc 73, 2) := by decide +kernel
theorem dX4_melt_17 : decode cX4_melt 17 = .ok (.invokespecial 75, 3) := by decide +kernel
theorem dX4_melt_20 : decode cX4_melt 20 = .ok (.athrow, 1) := by decide +kernel
theorem dX4_melt_21 : decode cX4_melt 21 = .ok (.aload_n 0, 1) := by decide +kernel
theorem dX4_melt_22 : decode cX4_melt 22 = .ok (.getfield 10, 3) := by decide +kernel
theorem dX4_melt_25 : decode cX4_melt 25 = .ok (.iload_n 1, 1) := by decide +kernel
theorem dX4_melt_26 : decode cX4_melt 26 = .ok (.invokevirtual 76, 3) := by decide +kernel
theorem dX4_melt_29 : decode cX4_melt 29 = .ok (.istore_n 2, 1) := by decide +kernel
theorem dX4_melt_30 : decode cX4_melt 30 = .ok (.aload_n 0, 1) := by decide +kernel
theorem dX4_melt_31 : decode cX4_melt 31 = .ok (.getfield 22, 3) := by decide +kernel
theorem dX4_melt_34 : decode cX4_melt 34 = .ok (.iload_n 2, 1) := by decide +kernel
theorem dX4_melt_35 : decode cX4_melt 35 = .ok (.iadd, 1) := by decide +kernel
theorem dX4_melt_36 : decode cX4_melt 36 = .ok (.sipush 9999, 3) := by decide +kernel
theorem dX4_melt_39 : decode cX4_melt 39 = .ok (.if_icmp .le 13, 3) := by decide +kernel
theorem dX4_melt_42 : decode cX4_melt 42 = .ok (.new 51, 3) := by decide +kernel
theorem dX4_melt_45 : decode cX4_melt 45 = .ok (.dup, 1) := by decide +kernel
theorem dX4_melt_46 : decode cX4_melt 46 = .ok (.ldc 79, 2) := by decide +kernel
theorem dX4_melt_48 : decode cX4_melt 48 = .ok (.invokespecial 55, 3) := by decide +kernel
theorem dX4_melt_51 : decode cX4_melt 51 = .ok (.athrow, 1) := by decide +kernel
theorem dX4_melt_52 : decode cX4_melt 52 = .ok (.aload_n 0, 1) := by decide +kernel
theorem dX4_melt_53 : decode cX4_melt 53 = .ok (.getfield 10, 3) := by decide +kernel
theorem dX4_melt_56 : decode cX4_melt 56 = .ok (.iload_n 1, 1) := by decide +kernel
theorem dX4_melt_57 : decode cX4_melt 57 = .ok (.invokevirtual 81, 3) := by decide +kernel
theorem dX4_melt_60 : decode cX4_melt 60 = .ok (.istore_n 3, 1) := by decide +kernel
theorem dX4_melt_61 : decode cX4_melt 61 = .ok (.aload_n 0, 1) := by decide +kernel
theorem dX4_melt_62 : decode cX4_melt 62 = .ok (.dup, 1) := by decide +kernel
theorem dX4_melt_63 : decode cX4_melt 63 = .ok (.getfield 22, 3) := by decide +kernel
theorem dX4_melt_66 : decode cX4_melt 66 = .ok (.iload_n 2, 1) := by decide +kernel
theorem dX4_melt_67 : decode cX4_melt 67 = .ok (.iadd, 1) := by decide +kernel
theorem dX4_melt_68 : decode cX4_melt 68 = .ok (.putfield 22, 3) := by decide +kernel
theorem dX4_melt_71 : decode cX4_melt 71 = .ok (.aload_n 0, 1) := by decide +kernel
theorem dX4_melt_72 : decode cX4_melt 72 = .ok (.dup, 1) := by decide +kernel
theorem dX4_melt_73 : decode cX4_melt 73 = .ok (.getfield 84, 3) := by decide +kernel
theorem dX4_melt_76 : decode cX4_melt 76 = .ok (.iload_n 3, 1) := by decide +kernel
theorem dX4_melt_77 : decode cX4_melt 77 = .ok (.iadd, 1) := by decide +kernel
theorem dX4_melt_78 : decode cX4_melt 78 = .ok (.putfield 84, 3) := by decide +kernel
theorem dX4_melt_81 : decode cX4_melt 81 = .ok (.iload_n 3, 1) := by decide +kernel
theorem dX4_melt_82 : decode cX4_melt 82 = .ok (.ireturn, 1) := by decide +kernel
theorem dX4_buy_0 : decode cX4_buy 0 = .ok (.iload_n 1, 1) := by decide +kernel
theorem dX4_buy_1 : decode cX4_buy 1 = .ok (.iconst 1, 1) := by decide +kernel
theorem dX4_buy_2 : decode cX4_buy 2 = .ok (.if_icmp .lt 10, 3) := by decide +kernel
theorem dX4_buy_5 : decode cX4_buy 5 = .ok (.iload_n 1, 1) := by decide +kernel
theorem dX4_buy_6 : decode cX4_buy 6 = .ok (.sipush 2000, 3) := by decide +kernel
theorem dX4_buy_9 : decode cX4_buy 9 = .ok (.if_icmp .le 13, 3) := by decide +kernel
theorem dX4_buy_12 : decode cX4_buy 12 = .ok (.new 71, 3) := by decide +kernel
theorem dX4_buy_15 : decode cX4_buy 15 = .ok (.dup, 1) := by decide +kernel
theorem dX4_buy_16 : decode cX4_buy 16 = .ok (.ldc 87, 2) := by decide +kernel
theorem dX4_buy_18 : decode cX4_buy 18 = .ok (.invokespecial 75, 3) := by decide +kernel
theorem dX4_buy_21 : decode cX4_buy 21 = .ok (.athrow, 1) := by decide +kernel
theorem dX4_buy_22 : decode cX4_buy 22 = .ok (.aload_n 0, 1) := by decide +kernel
theorem dX4_buy_23 : decode cX4_buy 23 = .ok (.getfield 22, 3) := by decide +kernel
theorem dX4_buy_26 : decode cX4_buy 26 = .ok (.iload_n 1, 1) := by decide +kernel
theorem dX4_buy_27 : decode cX4_buy 27 = .ok (.iadd, 1) := by decide +kernel
theorem dX4_buy_28 : decode cX4_buy 28 = .ok (.sipush 9999, 3) := by decide +kernel
theorem dX4_buy_31 : decode cX4_buy 31 = .ok (.if_icmp .le 13, 3) := by decide +kernel
theorem dX4_buy_34 : decode cX4_buy 34 = .ok (.new 51, 3) := by decide +kernel
theorem dX4_buy_37 : decode cX4_buy 37 = .ok (.dup, 1) := by decide +kernel
theorem dX4_buy_38 : decode cX4_buy 38 = .ok (.ldc 79, 2) := by decide +kernel
theorem dX4_buy_40 : decode cX4_buy 40 = .ok (.invokespecial 55, 3) := by decide +kernel
theorem dX4_buy_43 : decode cX4_buy 43 = .ok (.athrow, 1) := by decide +kernel
theorem dX4_buy_44 : decode cX4_buy 44 = .ok (.aload_n 0, 1) := by decide +kernel
theorem dX4_buy_45 : decode cX4_buy 45 = .ok (.dup, 1) := by decide +kernel
theorem dX4_buy_46 : decode cX4_buy 46 = .ok (.getfield 22, 3) := by decide +kernel
theorem dX4_buy_49 : decode cX4_buy 49 = .ok (.iload_n 1, 1) := by decide +kernel
theorem dX4_buy_50 : decode cX4_buy 50 = .ok (.iadd, 1) := by decide +kernel
theorem dX4_buy_51 : decode cX4_buy 51 = .ok (.putfield 22, 3) := by decide +kernel
theorem dX4_buy_54 : decode cX4_buy 54 = .ok (.aload_n 0, 1) := by decide +kernel
theorem dX4_buy_55 : decode cX4_buy 55 = .ok (.getfield 22, 3) := by decide +kernel
theorem dX4_buy_58 : decode cX4_buy 58 = .ok (.ireturn, 1) := by decide +kernel
set_option maxRecDepth 20000 in
theorem ggX4_come_X0_init : GoodIn wsX4_come wsX0_init := goodIn_r _ [12, 13, 14, 15, 16, 17, 18, 19, 20, 21, 22, 23, 24, 25, 26, 44, 38, 39, 40, 41, 42, 43] (by decide +kernel) (by decide +kernel)
set_option maxRecDepth 20000 in
theorem gX4_come_X0_init : GoodIn wsX4_come (wsX0_init) := ggX4_come_X0_init
theorem dX4_come_0 : decode cX4_come 0 = .ok (.iload_n 1, 1) := by decide +kernel
theorem dX4_come_1 : decode cX4_come 1 = .ok (.ifCond .lt 10, 3) := by decide +kernel
theorem dX4_come_4 : decode cX4_come 4 = .ok (.iload_n 1, 1) := by decide +kernel
theorem dX4_come_5 : decode cX4_come 5 = .ok (.sipush 5000, 3) := by decide +kernel
theorem dX4_come_8 : decode cX4_come 8 = .ok (.if_icmp .le 13, 3) := by decide +kernel
theorem dX4_come_11 : decode cX4_come 11 = .ok (.new 71, 3) := by decide +kernel
theorem dX4_come_14 : decode cX4_come 14 = .ok (.dup, 1) := by decide +kernel
theorem dX4_come_15 : decode cX4_come 15 = .ok (.ldc 89, 2) := by decide +kernel
theorem dX4_come_17 : decode cX4_come 17 = .ok (.invokespecial 75, 3) := by decide +kernel
theorem dX4_come_20 : decode cX4_come 20 = .ok (.athrow, 1) := by decide +kernel
theorem dX4_come_21 : decode cX4_come 21 = .ok (.aload_n 0, 1) := by decide +kernel
theorem dX4_come_22 : decode cX4_come 22 = .ok (.getfield 91, 3) := by decide +kernel
theorem dX4_come_25 : decode cX4_come 25 = .ok (.istore_n 2, 1) := by decide +kernel
theorem dX4_come_26 : decode cX4_come 26 = .ok (.iload_n 2, 1) := by decide +kernel
theorem dX4_come_27 : decode cX4_come 27 = .ok (.ifCond .lt 12, 3) := by decide +kernel
theorem dX4_come_30 : decode cX4_come 30 = .ok (.iload_n 2, 1) := by decide +kernel
theorem dX4_come_31 : decode cX4_come 31 = .ok (.aload_n 0, 1) := by decide +kernel
theorem dX4_come_32 : decode cX4_come 32 = .ok (.getfield 18, 3) := by decide +kernel
theorem dX4_come_35 : decode cX4_come 35 = .ok (.arraylength, 1) := by decide +kernel
theorem dX4_come_36 : decode cX4_come 36 = .ok (.if_icmp .lt 13, 3) := by decide +kernel
theorem dX4_come_39 : decode cX4_come 39 = .ok (.new 51, 3) := by decide +kernel
theorem dX4_come_42 : decode cX4_come 42 = .ok (.dup, 1) := by decide +kernel
theorem dX4_come_43 : decode cX4_come 43 = .ok (.ldc 94, 2) := by decide +kernel
theorem dX4_come_45 : decode cX4_come 45 = .ok (.invokespecial 55, 3) := by decide +kernel
theorem dX4_come_48 : decode cX4_come 48 = .ok (.athrow, 1) := by decide +kernel
theorem dX4_come_49 : decode cX4_come 49 = .ok (.aload_n 0, 1) := by decide +kernel
theorem dX4_come_50 : decode cX4_come 50 = .ok (.getfield 18, 3) := by decide +kernel
theorem dX4_come_53 : decode cX4_come 53 = .ok (.iload_n 2, 1) := by decide +kernel
theorem dX4_come_54 : decode cX4_come 54 = .ok (.new 16, 3) := by decide +kernel
theorem dX4_come_57 : decode cX4_come 57 = .ok (.dup, 1) := by decide +kernel
theorem dX4_come_58 : decode cX4_come 58 = .ok (.iload_n 1, 1) := by decide +kernel
theorem dX4_come_59 : decode cX4_come 59 = .ok (.invokespecial 96, 3) := by decide +kernel
theorem dX4_come_62 : decode cX4_come 62 = .ok (.aastore, 1) := by decide +kernel
theorem dX4_come_63 : decode cX4_come 63 = .ok (.aload_n 0, 1) := by decide +kernel
theorem dX4_come_64 : decode cX4_come 64 = .ok (.dup, 1) := by decide +kernel
theorem dX4_come_65 : decode cX4_come 65 = .ok (.getfield 91, 3) := by decide +kernel
theorem dX4_come_68 : decode cX4_come 68 = .ok (.iconst 1, 1) := by decide +kernel
theorem dX4_come_69 : decode cX4_come 69 = .ok (.iadd, 1) := by decide +kernel
theorem dX4_come_70 : decode cX4_come 70 = .ok (.putfield 91, 3) := by decide +kernel
theorem dX4_come_73 : decode cX4_come 73 = .ok (.iload_n 2, 1) := by decide +kernel
theorem dX4_come_74 : decode cX4_come 74 = .ok (.ireturn, 1) := by decide +kernel
end
section
set_option maxRecDepth 20000 in
theorem ggX4_rent_X4_needPrinter : GoodIn wsX4_rent wsX4_needPrinter := goodIn_ca (goodIn_r _ [8, 9, 10, 11, 46, 47, 48, 49, 50, 51, 52, 53, 54, 55, 56] (by decide +kernel) (by decide +kernel)) (goodIn_sub (fun _ h => List.mem_cons_of_mem _ (List.mem_append_left _ (List.mem_append_right _ h))) (by decide +kernel))
set_option maxRecDepth 20000 in
theorem gX4_rent_X4_needPrinter : GoodIn wsX4_rent (wsV RX4 98 RX4 yX4_needPrinter wsX4_needPrinter) := goodIn_app (goodIn_of _ (by decide +kernel)) ggX4_rent_X4_needPrinter
set_option maxRecDepth 20000 in
theorem ggX4_rent_X4_needSign : GoodIn wsX4_rent wsX4_needSign := goodIn_ca (goodIn_r _ [14, 9, 10] (by decide +kernel) (by decide +kernel)) (goodIn_sub (fun _ h => List.mem_cons_of_mem _ (List.mem_append_left _ (List.mem_append_right _ h))) (by decide +kernel))
set_option maxRecDepth 20000 in
theorem gX4_rent_X4_needSign : GoodIn wsX4_rent (va_wsS RX4 40 yX4_needSign wsX4_needSign) := goodIn_app (goodIn_of _ (by decide +kernel)) ggX4_rent_X4_needSign
set_option maxRecDepth 20000 in
theorem ggX4_rent_X4_needMany : GoodIn wsX4_rent wsX4_needMany := goodIn_ca (goodIn_r _ [17, 18, 19] (by decide +kernel) (by decide +kernel)) (goodIn_sub (fun _ h => List.mem_cons_of_mem _ (List.mem_append_right _ h)) (by decide +kernel))
set_option maxRecDepth 20000 in
theorem gX4_rent_X4_needMany : GoodIn wsX4_rent (va_wsS RX4 44 yX4_needMany wsX4_needMany) := goodIn_app (goodIn_of _ (by decide +kernel)) ggX4_rent_X4_needMany
set_option maxRecDepth 20000 in
theorem ggX4_rent_X2_ofSign : GoodIn wsX4_rent wsX2_ofSign := goodIn_r _ [24, 25, 26, 27, 23, 28, 29, 63] (by decide +kernel) (by decide +kernel)
set_option maxRecDepth 20000 in
theorem gX4_rent_X2_ofSign : GoodIn wsX4_rent (wsV RX4 58 RX2 yX2_ofSign wsX2_ofSign) := goodIn_app (goodIn_of _ (by decide +kernel)) ggX4_rent_X2_ofSign
set_option maxRecDepth 20000 in
theorem ggX4_rent_X2_moveLeastWorn : GoodIn wsX4_rent wsX2_moveLeastWorn := goodIn_r _ [33, 34, 35, 36, 23, 37, 38, 39, 40, 41, 25, 26, 27, 28, 29, 42, 43, 44, 45, 63] (by decide +kernel) (by decide +kernel)
set_option maxRecDepth 20000 in
theorem gX4_rent_X2_moveLeastWorn : GoodIn wsX4_rent (wsV RX4 107 RX2 yX2_moveLeastWorn wsX2_moveLeastWorn) := goodIn_app (goodIn_of _ (by decide +kernel)) ggX4_rent_X2_moveLeastWorn
theorem dX4_rent_0 : decode cX4_rent 0 = .ok (.aload_n 0, 1) := by decide +kernel
theorem dX4_rent_1 : decode cX4_rent 1 = .ok (.iload_n 1, 1) := by decide +kernel
theorem dX4_rent_2 : decode cX4_rent 2 = .ok (.invokevirtual 98, 3) := by decide +kernel
theorem dX4_rent_5 : decode cX4_rent 5 = .ok (.astore 4, 2) := by decide +kernel
theorem dX4_rent_7 : decode cX4_rent 7 = .ok (.iload_n 2, 1) := by decide +kernel
theorem dX4_rent_8 : decode cX4_rent 8 = .ok (.invokestatic 40, 3) := by decide +kernel
theorem dX4_rent_11 : decode cX4_rent 11 = .ok (.iload_n 3, 1) := by decide +kernel
theorem dX4_rent_12 : decode cX4_rent 12 = .ok (.invokestatic 44, 3) := by decide +kernel
theorem dX4_rent_15 : decode cX4_rent 15 = .ok (.aload_n 0, 1) := by decide +kernel
theorem dX4_rent_16 : decode cX4_rent 16 = .ok (.getfield 10, 3) := by decide +kernel
theorem dX4_rent_19 : decode cX4_rent 19 = .ok (.iload_n 2, 1) := by decide +kernel
theorem dX4_rent_20 : decode cX4_rent 20 = .ok (.invokevirtual 58, 3) := by decide +kernel
theorem dX4_rent_23 : decode cX4_rent 23 = .ok (.iload_n 3, 1) := by decide +kernel
theorem dX4_rent_24 : decode cX4_rent 24 = .ok (.if_icmp .ge 13, 3) := by decide +kernel
theorem dX4_rent_27 : decode cX4_rent 27 = .ok (.new 51, 3) := by decide +kernel
theorem dX4_rent_30 : decode cX4_rent 30 = .ok (.dup, 1) := by decide +kernel
theorem dX4_rent_31 : decode cX4_rent 31 = .ok (.ldc 102, 2) := by decide +kernel
theorem dX4_rent_33 : decode cX4_rent 33 = .ok (.invokespecial 55, 3) := by decide +kernel
theorem dX4_rent_36 : decode cX4_rent 36 = .ok (.athrow, 1) := by decide +kernel
theorem dX4_rent_37 : decode cX4_rent 37 = .ok (.aload_n 0, 1) := by decide +kernel
theorem dX4_rent_38 : decode cX4_rent 38 = .ok (.getfield 10, 3) := by decide +kernel
theorem dX4_rent_41 : decode cX4_rent 41 = .ok (.aload 4, 2) := by decide +kernel
theorem dX4_rent_43 : decode cX4_rent 43 = .ok (.getfield 104, 3) := by decide +kernel
theorem dX4_rent_46 : decode cX4_rent 46 = .ok (.iload_n 2, 1) := by decide +kernel
theorem dX4_rent_47 : decode cX4_rent 47 = .ok (.iload_n 3, 1) := by decide +kernel
theorem dX4_rent_48 : decode cX4_rent 48 = .ok (.invokevirtual 107, 3) := by decide +kernel
theorem dX4_rent_51 : decode cX4_rent 51 = .ok (.ireturn, 1) := by decide +kernel
set_option maxRecDepth 20000 in
theorem ggX4_giveBack_X4_needPrinter : GoodIn wsX4_giveBack wsX4_needPrinter := goodIn_ca (goodIn_r _ [8, 9, 10, 11, 52, 53, 54, 55, 56, 57, 58, 59, 60, 61, 62] (by decide +kernel) (by decide +kernel)) (goodIn_sub (fun _ h => List.mem_cons_of_mem _ (List.mem_append_left _ (List.mem_append_right _ h))) (by decide +kernel))
set_option maxRecDepth 20000 in
theorem gX4_giveBack_X4_needPrinter : GoodIn wsX4_giveBack (wsV RX4 98 RX4 yX4_needPrinter wsX4_needPrinter) := goodIn_app (goodIn_of _ (by decide +kernel)) ggX4_giveBack_X4_needPrinter
set_option maxRecDepth 20000 in
theorem ggX4_giveBack_X4_needSign : GoodIn wsX4_giveBack wsX4_needSign := goodIn_ca (goodIn_r _ [14, 9, 10] (by decide +kernel) (by decide +kernel)) (goodIn_sub (fun _ h => List.mem_cons_of_mem _ (List.mem_append_left _ (List.mem_append_right _ h))) (by decide +kernel))
set_option maxRecDepth 20000 in
theorem gX4_giveBack_X4_needSign : GoodIn wsX4_giveBack (va_wsS RX4 40 yX4_needSign wsX4_needSign) := goodIn_app (goodIn_of _ (by decide +kernel)) ggX4_giveBack_X4_needSign
set_option maxRecDepth 20000 in
theorem ggX4_giveBack_X4_needMany : GoodIn wsX4_giveBack wsX4_needMany := goodIn_ca (goodIn_r _ [17, 18, 19] (by decide +kernel) (by decide +kernel)) (goodIn_sub (fun _ h => List.mem_cons_of_mem _ (List.mem_append_right _ h)) (by decide +kernel))
set_option maxRecDepth 20000 in
theorem gX4_giveBack_X4_needMany : GoodIn wsX4_giveBack (va_wsS RX4 44 yX4_needMany wsX4_needMany) := goodIn_app (goodIn_of _ (by decide +kernel)) ggX4_giveBack_X4_needMany
set_option maxRecDepth 20000 in
theorem ggX4_giveBack_X2_ofSign : GoodIn wsX4_giveBack wsX2_ofSign := goodIn_r _ [24, 25, 26, 27, 23, 28, 29, 63] (by decide +kernel) (by decide +kernel)
set_option maxRecDepth 20000 in
theorem gX4_giveBack_X2_ofSign : GoodIn wsX4_giveBack (wsV RX4 58 RX2 yX2_ofSign wsX2_ofSign) := goodIn_app (goodIn_of _ (by decide +kernel)) ggX4_giveBack_X2_ofSign
set_option maxRecDepth 20000 in
theorem ggX4_giveBack_X2_moveMostWorn : GoodIn wsX4_giveBack wsX2_moveMostWorn := goodIn_r _ [33, 34, 35, 36, 23, 37, 38, 39, 40, 41, 25, 26, 27, 28, 29, 42, 43, 44, 45, 63] (by decide +kernel) (by decide +kernel)
set_option maxRecDepth 20000 in
theorem gX4_giveBack_X2_moveMostWorn : GoodIn wsX4_giveBack (wsV RX4 113 RX2 yX2_moveMostWorn wsX2_moveMostWorn) := goodIn_app (goodIn_of _ (by decide +kernel)) ggX4_giveBack_X2_moveMostWorn
theorem dX4_giveBack_0 : decode cX4_giveBack 0 = .ok (.aload_n 0, 1) := by decide +kernel
theorem dX4_giveBack_1 : decode cX4_giveBack 1 = .ok (.iload_n 1, 1) := by decide +kernel
theorem dX4_giveBack_2 : decode cX4_giveBack 2 = .ok (.invokevirtual 98, 3) := by decide +kernel
theorem dX4_giveBack_5 : decode cX4_giveBack 5 = .ok (.astore 4, 2) := by decide +kernel
theorem dX4_giveBack_7 : decode cX4_giveBack 7 = .ok (.iload_n 2, 1) := by decide +kernel
theorem dX4_giveBack_8 : decode cX4_giveBack 8 = .ok (.invokestatic 40, 3) := by decide +kernel
theorem dX4_giveBack_11 : decode cX4_giveBack 11 = .ok (.iload_n 3, 1) := by decide +kernel
theorem dX4_giveBack_12 : decode cX4_giveBack 12 = .ok (.invokestatic 44, 3) := by decide +kernel
theorem dX4_giveBack_15 : decode cX4_giveBack 15 = .ok (.aload 4, 2) := by decide +kernel
theorem dX4_giveBack_17 : decode cX4_giveBack 17 = .ok (.getfield 104, 3) := by decide +kernel
theorem dX4_giveBack_20 : decode cX4_giveBack 20 = .ok (.iload_n 2, 1) := by decide +kernel
theorem dX4_giveBack_21 : decode cX4_giveBack 21 = .ok (.invokevirtual 58, 3) := by decide +kernel
theorem dX4_giveBack_24 : decode cX4_giveBack 24 = .ok (.iload_n 3, 1) := by decide +kernel
theorem dX4_giveBack_25 : decode cX4_giveBack 25 = .ok (.if_icmp .ge 13, 3) := by decide +kernel
theorem dX4_giveBack_28 : decode cX4_giveBack 28 = .ok (.new 51, 3) := by decide +kernel
theorem dX4_giveBack_31 : decode cX4_giveBack 31 = .ok (.dup, 1) := by decide +kernel
theorem dX4_giveBack_32 : decode cX4_giveBack 32 = .ok (.ldc 111, 2) := by decide +kernel
theorem dX4_giveBack_34 : decode cX4_giveBack 34 = .ok (.invokespecial 55, 3) := by decide +kernel
theorem dX4_giveBack_37 : decode cX4_giveBack 37 = .ok (.athrow, 1) := by decide +kernel
theorem dX4_giveBack_38 : decode cX4_giveBack 38 = .ok (.aload 4, 2) := by decide +kernel
theorem dX4_giveBack_40 : decode cX4_giveBack 40 = .ok (.getfield 104, 3) := by decide +kernel
theorem dX4_giveBack_43 : decode cX4_giveBack 43 = .ok (.aload_n 0, 1) := by decide +kernel
theorem dX4_giveBack_44 : decode cX4_giveBack 44 = .ok (.getfield 10, 3) := by decide +kernel
theorem dX4_giveBack_47 : decode cX4_giveBack 47 = .ok (.iload_n 2, 1) := by decide +kernel
theorem dX4_giveBack_48 : decode cX4_giveBack 48 = .ok (.iload_n 3, 1) := by decide +kernel
theorem dX4_giveBack_49 : decode cX4_giveBack 49 = .ok (.invokevirtual 113, 3) := by decide +kernel
theorem dX4_giveBack_52 : decode cX4_giveBack 52 = .ok (.ireturn, 1) := by decide +kernel
set_option maxRecDepth 20000 in
theorem ggX4_pay_X4_needPrinter : GoodIn wsX4_pay wsX4_needPrinter := goodIn_ca (goodIn_r _ [10, 11, 12, 13, 20, 21, 22, 23, 24, 25, 26, 27, 28, 29, 30] (by decide +kernel) (by decide +kernel)) (goodIn_sub (fun _ h => List.mem_cons_of_mem _ (List.mem_append_right _ h)) (by decide +kernel))
set_option maxRecDepth 20000 in
theorem gX4_pay_X4_needPrinter : GoodIn wsX4_pay (wsV RX4 98 RX4 yX4_needPrinter wsX4_needPrinter) := goodIn_app (goodIn_of _ (by decide +kernel)) ggX4_pay_X4_needPrinter
theorem dX4_pay_0 : decode cX4_pay 0 = .ok (.aload_n 0, 1) := by decide +kernel
theorem dX4_pay_1 : decode cX4_pay 1 = .ok (.iload_n 1, 1) := by decide +kernel
theorem dX4_pay_2 : decode cX4_pay 2 = .ok (.invokevirtual 98, 3) := by decide +kernel
theorem dX4_pay_5 : decode cX4_pay 5 = .ok (.astore_n 2, 1) := by decide +kernel
theorem dX4_pay_6 : decode cX4_pay 6 = .ok (.aload_n 2, 1) := by decide +kernel
theorem dX4_pay_7 : decode cX4_pay 7 = .ok (.getfield 116, 3) := by decide +kernel
theorem dX4_pay_10 : decode cX4_pay 10 = .ok (.aload_n 2, 1) := by decide +kernel
theorem dX4_pay_11 : decode cX4_pay 11 = .ok (.getfield 119, 3) := by decide +kernel
theorem dX4_pay_14 : decode cX4_pay 14 = .ok (.invokestatic 122, 3) := by decide +kernel
theorem dX4_pay_17 : decode cX4_pay 17 = .ok (.istore_n 3, 1) := by decide +kernel
theorem dX4_pay_18 : decode cX4_pay 18 = .ok (.aload_n 2, 1) := by decide +kernel
theorem dX4_pay_19 : decode cX4_pay 19 = .ok (.dup, 1) := by decide +kernel
theorem dX4_pay_20 : decode cX4_pay 20 = .ok (.getfield 116, 3) := by decide +kernel
theorem dX4_pay_23 : decode cX4_pay 23 = .ok (.iload_n 3, 1) := by decide +kernel
theorem dX4_pay_24 : decode cX4_pay 24 = .ok (.isub, 1) := by decide +kernel
theorem dX4_pay_25 : decode cX4_pay 25 = .ok (.putfield 116, 3) := by decide +kernel
theorem dX4_pay_28 : decode cX4_pay 28 = .ok (.aload_n 2, 1) := by decide +kernel
theorem dX4_pay_29 : decode cX4_pay 29 = .ok (.dup, 1) := by decide +kernel
theorem dX4_pay_30 : decode cX4_pay 30 = .ok (.getfield 119, 3) := by decide +kernel
theorem dX4_pay_33 : decode cX4_pay 33 = .ok (.iload_n 3, 1) := by decide +kernel
theorem dX4_pay_34 : decode cX4_pay 34 = .ok (.isub, 1) := by decide +kernel
theorem dX4_pay_35 : decode cX4_pay 35 = .ok (.putfield 119, 3) := by decide +kernel
theorem dX4_pay_38 : decode cX4_pay 38 = .ok (.aload_n 0, 1) := by decide +kernel
theorem dX4_pay_39 : decode cX4_pay 39 = .ok (.dup, 1) := by decide +kernel
theorem dX4_pay_40 : decode cX4_pay 40 = .ok (.getfield 128, 3) := by decide +kernel
theorem dX4_pay_43 : decode cX4_pay 43 = .ok (.iload_n 3, 1) := by decide +kernel
theorem dX4_pay_44 : decode cX4_pay 44 = .ok (.iadd, 1) := by decide +kernel
theorem dX4_pay_45 : decode cX4_pay 45 = .ok (.putfield 128, 3) := by decide +kernel
theorem dX4_pay_48 : decode cX4_pay 48 = .ok (.iload_n 3, 1) := by decide +kernel
theorem dX4_pay_49 : decode cX4_pay 49 = .ok (.ireturn, 1) := by decide +kernel
set_option maxRecDepth 20000 in
theorem ggX4_set_X4_needPrinter : GoodIn wsX4_set wsX4_needPrinter := goodIn_ca (goodIn_r _ [8, 9, 10, 11, 95, 96, 97, 98, 99, 100, 101, 102, 103, 104, 105] (by decide +kernel) (by decide +kernel)) (goodIn_sub (fun _ h => List.mem_cons_of_mem _ (List.mem_append_left _ (List.mem_append_right _ h))) (by decide +kernel))
set_option maxRecDepth 20000 in
theorem gX4_set_X4_needPrinter : GoodIn wsX4_set (wsV RX4 98 RX4 yX4_needPrinter wsX4_needPrinter) := goodIn_app (goodIn_of _ (by decide +kernel)) ggX4_set_X4_needPrinter
set_option maxRecDepth 20000 in
theorem ggX4_set_X4_needWord : GoodIn wsX4_set wsX4_needWord := goodIn_ca (goodIn_r _ [15, 16, 17, 18, 19, 20, 21, 22, 23, 24, 25, 26, 95, 96, 97, 98, 99, 100, 101, 102, 103, 104, 105, 112, 113] (by decide +kernel) (by decide +kernel)) (goodIn_sub (fun _ h => List.mem_cons_of_mem _ (List.mem_append_right _ h)) (by decide +kernel))
set_option maxRecDepth 20000 in
theorem gX4_set_X4_needWord : GoodIn wsX4_set (wsV RX4 129 RX4 yX4_needWord wsX4_needWord) := goodIn_app (goodIn_of _ (by decide +kernel)) ggX4_set_X4_needWord
set_option maxRecDepth 20000 in
theorem ggX4_set_X1_fillFrom : GoodIn wsX4_set wsX1_fillFrom := goodIn_r _ [31, 32, 33, 34, 35, 36, 37, 38, 39, 40, 41, 42, 114, 115, 116] (by decide +kernel) (by decide +kernel)
set_option maxRecDepth 20000 in
theorem gX4_set_X1_fillFrom : GoodIn wsX4_set (wsV RX4 133 RX1 yX1_fillFrom wsX1_fillFrom) := goodIn_app (goodIn_of _ (by decide +kernel)) ggX4_set_X1_fillFrom
set_option maxRecDepth 20000 in
theorem ggX4_set_X1_lay : GoodIn wsX4_set wsX1_lay := goodIn_r _ [46, 47, 32, 48, 49, 50, 51, 52, 53, 54, 22, 55, 26, 56, 57, 58, 30, 59, 60, 61, 62, 63, 64, 65, 66, 67, 25, 68, 69, 7, 70, 114, 115, 112, 113] (by decide +kernel) (by decide +kernel)
set_option maxRecDepth 20000 in
theorem gX4_set_X1_lay : GoodIn wsX4_set (wsV RX4 137 RX1 yX1_lay wsX1_lay) := goodIn_app (goodIn_of _ (by decide +kernel)) ggX4_set_X1_lay
set_option maxRecDepth 20000 in
theorem ggX4_set_X2_inAll : GoodIn wsX4_set wsX2_inAll := goodIn_r _ [74, 42, 116] (by decide +kernel) (by decide +kernel)
set_option maxRecDepth 20000 in
theorem gX4_set_X2_inAll : GoodIn wsX4_set (wsV RX4 146 RX2 yX2_inAll wsX2_inAll) := goodIn_app (goodIn_of _ (by decide +kernel)) ggX4_set_X2_inAll
set_option maxRecDepth 20000 in
theorem ggX4_set_X1_taken : GoodIn wsX4_set wsX1_taken := goodIn_r _ [78, 47, 114, 115] (by decide +kernel) (by decide +kernel)
set_option maxRecDepth 20000 in
theorem gX4_set_X1_taken : GoodIn wsX4_set (wsV RX4 152 RX1 yX1_taken wsX1_taken) := goodIn_app (goodIn_of _ (by decide +kernel)) ggX4_set_X1_taken
set_option maxRecDepth 20000 in
theorem ggX4_set_X2_moveMostWorn : GoodIn wsX4_set wsX2_moveMostWorn := goodIn_r _ [82, 83, 84, 85, 36, 86, 87, 88, 89, 90, 38, 39, 40, 41, 42, 91, 92, 93, 94, 116] (by decide +kernel) (by decide +kernel)
set_option maxRecDepth 20000 in
theorem gX4_set_X2_moveMostWorn : GoodIn wsX4_set (wsV RX4 113 RX2 yX2_moveMostWorn wsX2_moveMostWorn) := goodIn_app (goodIn_of _ (by decide +kernel)) ggX4_set_X2_moveMostWorn
theorem dX4_set_0 : decode cX4_set 0 = .ok (.aload_n 0, 1) := by decide +kernel
theorem dX4_set_1 : decode cX4_set 1 = .ok (.iload_n 1, 1) := by decide +kernel
theorem dX4_set_2 : decode cX4_set 2 = .ok (.invokevirtual 98, 3) := by decide +kernel
theorem dX4_set_5 : decode cX4_set 5 = .ok (.astore_n 3, 1) := by decide +kernel
theorem dX4_set_6 : decode cX4_set 6 = .ok (.aload_n 0, 1) := by decide +kernel
theorem dX4_set_7 : decode cX4_set 7 = .ok (.iload_n 2, 1) := by decide +kernel
theorem dX4_set_8 : decode cX4_set 8 = .ok (.invokevirtual 129, 3) := by decide +kernel
theorem dX4_set_11 : decode cX4_set 11 = .ok (.astore 4, 2) := by decide +kernel
theorem dX4_set_13 : decode cX4_set 13 = .ok (.aload_n 0, 1) := by decide +kernel
theorem dX4_set_14 : decode cX4_set 14 = .ok (.getfield 36, 3) := by decide +kernel
theorem dX4_set_17 : decode cX4_set 17 = .ok (.aload_n 3, 1) := by decide +kernel
theorem dX4_set_18 : decode cX4_set 18 = .ok (.getfield 104, 3) := by decide +kernel
theorem dX4_set_21 : decode cX4_set 21 = .ok (.invokevirtual 133, 3) := by decide +kernel
theorem dX4_set_24 : decode cX4_set 24 = .ok (.aload_n 0, 1) := by decide +kernel
theorem dX4_set_25 : decode cX4_set 25 = .ok (.getfield 36, 3) := by decide +kernel
theorem dX4_set_28 : decode cX4_set 28 = .ok (.aload 4, 2) := by decide +kernel
theorem dX4_set_30 : decode cX4_set 30 = .ok (.invokevirtual 137, 3) := by decide +kernel
theorem dX4_set_33 : decode cX4_set 33 = .ok (.istore 5, 2) := by decide +kernel
theorem dX4_set_35 : decode cX4_set 35 = .ok (.iload 5, 2) := by decide +kernel
theorem dX4_set_37 : decode cX4_set 37 = .ok (.iconst (-1), 1) := by decide +kernel
theorem dX4_set_38 : decode cX4_set 38 = .ok (.if_icmp .ne 13, 3) := by decide +kernel
theorem dX4_set_41 : decode cX4_set 41 = .ok (.new 51, 3) := by decide +kernel
theorem dX4_set_44 : decode cX4_set 44 = .ok (.dup, 1) := by decide +kernel
theorem dX4_set_45 : decode cX4_set 45 = .ok (.ldc 141, 2) := by decide +kernel
theorem dX4_set_47 : decode cX4_set 47 = .ok (.invokespecial 55, 3) := by decide +kernel
theorem dX4_set_50 : decode cX4_set 50 = .ok (.athrow, 1) := by decide +kernel
theorem dX4_set_51 : decode cX4_set 51 = .ok (.aload_n 3, 1) := by decide +kernel
theorem dX4_set_52 : decode cX4_set 52 = .ok (.getfield 143, 3) := by decide +kernel
theorem dX4_set_55 : decode cX4_set 55 = .ok (.invokevirtual 146, 3) := by decide +kernel
theorem dX4_set_58 : decode cX4_set 58 = .ok (.iload 5, 2) := by decide +kernel
theorem dX4_set_60 : decode cX4_set 60 = .ok (.iadd, 1) := by decide +kernel
theorem dX4_set_61 : decode cX4_set 61 = .ok (.bipush 60, 2) := by decide +kernel
theorem dX4_set_63 : decode cX4_set 63 = .ok (.if_icmp .le 13, 3) := by decide +kernel
theorem dX4_set_66 : decode cX4_set 66 = .ok (.new 51, 3) := by decide +kernel
theorem dX4_set_69 : decode cX4_set 69 = .ok (.dup, 1) := by decide +kernel
theorem dX4_set_70 : decode cX4_set 70 = .ok (.ldc 150, 2) := by decide +kernel
theorem dX4_set_72 : decode cX4_set 72 = .ok (.invokespecial 55, 3) := by decide +kernel
theorem dX4_set_75 : decode cX4_set 75 = .ok (.athrow, 1) := by decide +kernel
theorem dX4_set_76 : decode cX4_set 76 = .ok (.iconst 0, 1) := by decide +kernel
theorem dX4_set_77 : decode cX4_set 77 = .ok (.istore 6, 2) := by decide +kernel
theorem dX4_set_79 : decode cX4_set 79 = .ok (.iload 6, 2) := by decide +kernel
theorem dX4_set_81 : decode cX4_set 81 = .ok (.bipush 29, 2) := by decide +kernel
theorem dX4_set_83 : decode cX4_set 83 = .ok (.if_icmp .ge 32, 3) := by decide +kernel
theorem dX4_set_86 : decode cX4_set 86 = .ok (.aload_n 3, 1) := by decide +kernel
theorem dX4_set_87 : decode cX4_set 87 = .ok (.getfield 104, 3) := by decide +kernel
theorem dX4_set_90 : decode cX4_set 90 = .ok (.aload_n 3, 1) := by decide +kernel
theorem dX4_set_91 : decode cX4_set 91 = .ok (.getfield 143, 3) := by decide +kernel
theorem dX4_set_94 : decode cX4_set 94 = .ok (.iload 6, 2) := by decide +kernel
theorem dX4_set_96 : decode cX4_set 96 = .ok (.aload_n 0, 1) := by decide +kernel
theorem dX4_set_97 : decode cX4_set 97 = .ok (.getfield 36, 3) := by decide +kernel
theorem dX4_set_100 : decode cX4_set 100 = .ok (.iload 6, 2) := by decide +kernel
theorem dX4_set_102 : decode cX4_set 102 = .ok (.invokevirtual 152, 3) := by decide +kernel
theorem dX4_set_105 : decode cX4_set 105 = .ok (.invokevirtual 113, 3) := by decide +kernel
theorem dX4_set_108 : decode cX4_set 108 = .ok (.pop, 1) := by decide +kernel
theorem dX4_set_109 : decode cX4_set 109 = .ok (.iinc 6 1, 3) := by decide +kernel
theorem dX4_set_112 : decode cX4_set 112 = .ok (.goto (-33), 3) := by decide +kernel
theorem dX4_set_115 : decode cX4_set 115 = .ok (.aload_n 3, 1) := by decide +kernel
theorem dX4_set_116 : decode cX4_set 116 = .ok (.dup, 1) := by decide +kernel
theorem dX4_set_117 : decode cX4_set 117 = .ok (.getfield 155, 3) := by decide +kernel
theorem dX4_set_120 : decode cX4_set 120 = .ok (.iconst 1, 1) := by decide +kernel
theorem dX4_set_121 : decode cX4_set 121 = .ok (.iadd, 1) := by decide +kernel
theorem dX4_set_122 : decode cX4_set 122 = .ok (.putfield 155, 3) := by decide +kernel
theorem dX4_set_125 : decode cX4_set 125 = .ok (.iload 5, 2) := by decide +kernel
theorem dX4_set_127 : decode cX4_set 127 = .ok (.ireturn, 1) := by decide +kernel
set_option maxRecDepth 20000 in
theorem ggX4_print_X4_needPrinter : GoodIn wsX4_print wsX4_needPrinter := goodIn_ca (goodIn_r _ [10, 11, 12, 13, 42, 43, 44, 45, 46, 47, 48, 49, 50, 51, 52] (by decide +kernel) (by decide +kernel)) (goodIn_sub (fun _ h => List.mem_cons_of_mem _ (List.mem_append_right _ h)) (by decide +kernel))
set_option maxRecDepth 20000 in
theorem gX4_print_X4_needPrinter : GoodIn wsX4_print (wsV RX4 98 RX4 yX4_needPrinter wsX4_needPrinter) := goodIn_app (goodIn_of _ (by decide +kernel)) ggX4_print_X4_needPrinter
set_option maxRecDepth 20000 in
theorem ggX4_print_X2_inAll : GoodIn wsX4_print wsX2_inAll := goodIn_r _ [18, 19, 53] (by decide +kernel) (by decide +kernel)
set_option maxRecDepth 20000 in
theorem gX4_print_X2_inAll : GoodIn wsX4_print (wsV RX4 146 RX2 yX2_inAll wsX2_inAll) := goodIn_app (goodIn_of _ (by decide +kernel)) ggX4_print_X2_inAll
set_option maxRecDepth 20000 in
theorem ggX4_print_X2_wearBy : GoodIn wsX4_print wsX2_wearBy := goodIn_r _ [23, 24, 25, 26, 17, 27, 28, 29, 30, 31, 19, 32, 33, 34, 35, 53] (by decide +kernel) (by decide +kernel)
set_option maxRecDepth 20000 in
theorem gX4_print_X2_wearBy : GoodIn wsX4_print (wsV RX4 162 RX2 yX2_wearBy wsX2_wearBy) := goodIn_app (goodIn_of _ (by decide +kernel)) ggX4_print_X2_wearBy
theorem dX4_print_0 : decode cX4_print 0 = .ok (.aload_n 0, 1) := by decide +kernel
theorem dX4_print_1 : decode cX4_print 1 = .ok (.iload_n 1, 1) := by decide +kernel
theorem dX4_print_2 : decode cX4_print 2 = .ok (.invokevirtual 98, 3) := by decide +kernel
theorem dX4_print_5 : decode cX4_print 5 = .ok (.astore_n 3, 1) := by decide +kernel
theorem dX4_print_6 : decode cX4_print 6 = .ok (.iload_n 2, 1) := by decide +kernel
theorem dX4_print_7 : decode cX4_print 7 = .ok (.iconst 1, 1) := by decide +kernel
theorem dX4_print_8 : decode cX4_print 8 = .ok (.if_icmp .lt 10, 3) := by decide +kernel
theorem dX4_print_11 : decode cX4_print 11 = .ok (.iload_n 2, 1) := by decide +kernel
theorem dX4_print_12 : decode cX4_print 12 = .ok (.sipush 1000, 3) := by decide +kernel
theorem dX4_print_15 : decode cX4_print 15 = .ok (.if_icmp .le 13, 3) := by decide +kernel
theorem dX4_print_18 : decode cX4_print 18 = .ok (.new 71, 3) := by decide +kernel
theorem dX4_print_21 : decode cX4_print 21 = .ok (.dup, 1) := by decide +kernel
theorem dX4_print_22 : decode cX4_print 22 = .ok (.ldc 158, 2) := by decide +kernel
theorem dX4_print_24 : decode cX4_print 24 = .ok (.invokespecial 75, 3) := by decide +kernel
theorem dX4_print_27 : decode cX4_print 27 = .ok (.athrow, 1) := by decide +kernel
theorem dX4_print_28 : decode cX4_print 28 = .ok (.aload_n 3, 1) := by decide +kernel
theorem dX4_print_29 : decode cX4_print 29 = .ok (.getfield 143, 3) := by decide +kernel
theorem dX4_print_32 : decode cX4_print 32 = .ok (.invokevirtual 146, 3) := by decide +kernel
theorem dX4_print_35 : decode cX4_print 35 = .ok (.ifCond .ne 13, 3) := by decide +kernel
theorem dX4_print_38 : decode cX4_print 38 = .ok (.new 51, 3) := by decide +kernel
theorem dX4_print_41 : decode cX4_print 41 = .ok (.dup, 1) := by decide +kernel
theorem dX4_print_42 : decode cX4_print 42 = .ok (.ldc 160, 2) := by decide +kernel
theorem dX4_print_44 : decode cX4_print 44 = .ok (.invokespecial 55, 3) := by decide +kernel
theorem dX4_print_47 : decode cX4_print 47 = .ok (.athrow, 1) := by decide +kernel
theorem dX4_print_48 : decode cX4_print 48 = .ok (.aload_n 3, 1) := by decide +kernel
theorem dX4_print_49 : decode cX4_print 49 = .ok (.getfield 143, 3) := by decide +kernel
theorem dX4_print_52 : decode cX4_print 52 = .ok (.iload_n 2, 1) := by decide +kernel
theorem dX4_print_53 : decode cX4_print 53 = .ok (.bipush 50, 2) := by decide +kernel
theorem dX4_print_55 : decode cX4_print 55 = .ok (.idiv, 1) := by decide +kernel
theorem dX4_print_56 : decode cX4_print 56 = .ok (.invokevirtual 162, 3) := by decide +kernel
theorem dX4_print_59 : decode cX4_print 59 = .ok (.istore 4, 2) := by decide +kernel
theorem dX4_print_61 : decode cX4_print 61 = .ok (.aload_n 3, 1) := by decide +kernel
theorem dX4_print_62 : decode cX4_print 62 = .ok (.dup, 1) := by decide +kernel
theorem dX4_print_63 : decode cX4_print 63 = .ok (.getfield 165, 3) := by decide +kernel
theorem dX4_print_66 : decode cX4_print 66 = .ok (.iload_n 2, 1) := by decide +kernel
theorem dX4_print_67 : decode cX4_print 67 = .ok (.iadd, 1) := by decide +kernel
theorem dX4_print_68 : decode cX4_print 68 = .ok (.putfield 165, 3) := by decide +kernel
theorem dX4_print_71 : decode cX4_print 71 = .ok (.aload_n 0, 1) := by decide +kernel
theorem dX4_print_72 : decode cX4_print 72 = .ok (.dup, 1) := by decide +kernel
theorem dX4_print_73 : decode cX4_print 73 = .ok (.getfield 168, 3) := by decide +kernel
theorem dX4_print_76 : decode cX4_print 76 = .ok (.iload 4, 2) := by decide +kernel
theorem dX4_print_78 : decode cX4_print 78 = .ok (.iadd, 1) := by decide +kernel
theorem dX4_print_79 : decode cX4_print 79 = .ok (.putfield 168, 3) := by decide +kernel
theorem dX4_print_82 : decode cX4_print 82 = .ok (.iload 4, 2) := by decide +kernel
theorem dX4_print_84 : decode cX4_print 84 = .ok (.ireturn, 1) := by decide +kernel
set_option maxRecDepth 20000 in
theorem ggX4_distribute_X4_needPrinter : GoodIn wsX4_distribute wsX4_needPrinter := goodIn_ca (goodIn_r _ [5, 6, 7, 8, 45, 46, 47, 48, 49, 50, 51, 52, 53, 54, 55] (by decide +kernel) (by decide +kernel)) (goodIn_sub (fun _ h => List.mem_cons_of_mem _ (List.mem_append_right _ h)) (by decide +kernel))
set_option maxRecDepth 20000 in
theorem gX4_distribute_X4_needPrinter : GoodIn wsX4_distribute (wsV RX4 98 RX4 yX4_needPrinter wsX4_needPrinter) := goodIn_app (goodIn_of _ (by decide +kernel)) ggX4_distribute_X4_needPrinter
set_option maxRecDepth 20000 in
theorem ggX4_distribute_X2_inAll : GoodIn wsX4_distribute wsX2_inAll := goodIn_r _ [13, 14, 56] (by decide +kernel) (by decide +kernel)
set_option maxRecDepth 20000 in
theorem gX4_distribute_X2_inAll : GoodIn wsX4_distribute (wsV RX4 146 RX2 yX2_inAll wsX2_inAll) := goodIn_app (goodIn_of _ (by decide +kernel)) ggX4_distribute_X2_inAll
set_option maxRecDepth 20000 in
theorem ggX4_distribute_X2_ofSign : GoodIn wsX4_distribute wsX2_ofSign := goodIn_r _ [18, 19, 20, 21, 12, 22, 14, 56] (by decide +kernel) (by decide +kernel)
set_option maxRecDepth 20000 in
theorem gX4_distribute_X2_ofSign : GoodIn wsX4_distribute (wsV RX4 58 RX2 yX2_ofSign wsX2_ofSign) := goodIn_app (goodIn_of _ (by decide +kernel)) ggX4_distribute_X2_ofSign
set_option maxRecDepth 20000 in
theorem ggX4_distribute_X2_moveLeastWorn : GoodIn wsX4_distribute wsX2_moveLeastWorn := goodIn_r _ [26, 27, 28, 29, 12, 30, 31, 32, 33, 34, 19, 20, 21, 22, 14, 35, 36, 37, 38, 56] (by decide +kernel) (by decide +kernel)
set_option maxRecDepth 20000 in
theorem gX4_distribute_X2_moveLeastWorn : GoodIn wsX4_distribute (wsV RX4 107 RX2 yX2_moveLeastWorn wsX2_moveLeastWorn) := goodIn_app (goodIn_of _ (by decide +kernel)) ggX4_distribute_X2_moveLeastWorn
theorem dX4_distribute_0 : decode cX4_distribute 0 = .ok (.aload_n 0, 1) := by decide +kernel
theorem dX4_distribute_1 : decode cX4_distribute 1 = .ok (.iload_n 1, 1) := by decide +kernel
theorem dX4_distribute_2 : decode cX4_distribute 2 = .ok (.invokevirtual 98, 3) := by decide +kernel
theorem dX4_distribute_5 : decode cX4_distribute 5 = .ok (.astore_n 2, 1) := by decide +kernel
theorem dX4_distribute_6 : decode cX4_distribute 6 = .ok (.aload_n 2, 1) := by decide +kernel
theorem dX4_distribute_7 : decode cX4_distribute 7 = .ok (.getfield 143, 3) := by decide +kernel
theorem dX4_distribute_10 : decode cX4_distribute 10 = .ok (.invokevirtual 146, 3) := by decide +kernel
theorem dX4_distribute_13 : decode cX4_distribute 13 = .ok (.istore_n 3, 1) := by decide +kernel
theorem dX4_distribute_14 : decode cX4_distribute 14 = .ok (.iconst 0, 1) := by decide +kernel
theorem dX4_distribute_15 : decode cX4_distribute 15 = .ok (.istore 4, 2) := by decide +kernel
theorem dX4_distribute_17 : decode cX4_distribute 17 = .ok (.iload 4, 2) := by decide +kernel
theorem dX4_distribute_19 : decode cX4_distribute 19 = .ok (.bipush 29, 2) := by decide +kernel
theorem dX4_distribute_21 : decode cX4_distribute 21 = .ok (.if_icmp .ge 32, 3) := by decide +kernel
theorem dX4_distribute_24 : decode cX4_distribute 24 = .ok (.aload_n 2, 1) := by decide +kernel
theorem dX4_distribute_25 : decode cX4_distribute 25 = .ok (.getfield 143, 3) := by decide +kernel
theorem dX4_distribute_28 : decode cX4_distribute 28 = .ok (.aload_n 2, 1) := by decide +kernel
theorem dX4_distribute_29 : decode cX4_distribute 29 = .ok (.getfield 104, 3) := by decide +kernel
theorem dX4_distribute_32 : decode cX4_distribute 32 = .ok (.iload 4, 2) := by decide +kernel
theorem dX4_distribute_34 : decode cX4_distribute 34 = .ok (.aload_n 2, 1) := by decide +kernel
theorem dX4_distribute_35 : decode cX4_distribute 35 = .ok (.getfield 143, 3) := by decide +kernel
theorem dX4_distribute_38 : decode cX4_distribute 38 = .ok (.iload 4, 2) := by decide +kernel
theorem dX4_distribute_40 : decode cX4_distribute 40 = .ok (.invokevirtual 58, 3) := by decide +kernel
theorem dX4_distribute_43 : decode cX4_distribute 43 = .ok (.invokevirtual 107, 3) := by decide +kernel
theorem dX4_distribute_46 : decode cX4_distribute 46 = .ok (.pop, 1) := by decide +kernel
theorem dX4_distribute_47 : decode cX4_distribute 47 = .ok (.iinc 4 1, 3) := by decide +kernel
theorem dX4_distribute_50 : decode cX4_distribute 50 = .ok (.goto (-33), 3) := by decide +kernel
theorem dX4_distribute_53 : decode cX4_distribute 53 = .ok (.aload_n 2, 1) := by decide +kernel
theorem dX4_distribute_54 : decode cX4_distribute 54 = .ok (.iconst 0, 1) := by decide +kernel
theorem dX4_distribute_55 : decode cX4_distribute 55 = .ok (.putfield 155, 3) := by decide +kernel
theorem dX4_distribute_58 : decode cX4_distribute 58 = .ok (.iload_n 3, 1) := by decide +kernel
theorem dX4_distribute_59 : decode cX4_distribute 59 = .ok (.ireturn, 1) := by decide +kernel
set_option maxRecDepth 20000 in
theorem ggX4_pass_X0_rentOfADay : GoodIn wsX4_pass wsX0_rentOfADay := goodIn_r _ [9, 10, 11, 12, 13, 14, 15, 16, 17, 29, 30, 31, 32, 33, 34, 35] (by decide +kernel) (by decide +kernel)
set_option maxRecDepth 20000 in
theorem gX4_pass_X0_rentOfADay : GoodIn wsX4_pass (wsV RX4 176 RX0 yX0_rentOfADay wsX0_rentOfADay) := goodIn_app (goodIn_of _ (by decide +kernel)) ggX4_pass_X0_rentOfADay
theorem dX4_pass_0 : decode cX4_pass 0 = .ok (.iload_n 1, 1) := by decide +kernel
theorem dX4_pass_1 : decode cX4_pass 1 = .ok (.iconst 1, 1) := by decide +kernel
theorem dX4_pass_2 : decode cX4_pass 2 = .ok (.if_icmp .lt 9, 3) := by decide +kernel
theorem dX4_pass_5 : decode cX4_pass 5 = .ok (.iload_n 1, 1) := by decide +kernel
theorem dX4_pass_6 : decode cX4_pass 6 = .ok (.bipush 100, 2) := by decide +kernel
theorem dX4_pass_8 : decode cX4_pass 8 = .ok (.if_icmp .le 13, 3) := by decide +kernel
theorem dX4_pass_11 : decode cX4_pass 11 = .ok (.new 71, 3) := by decide +kernel
theorem dX4_pass_14 : decode cX4_pass 14 = .ok (.dup, 1) := by decide +kernel
theorem dX4_pass_15 : decode cX4_pass 15 = .ok (.ldc 171, 2) := by decide +kernel
theorem dX4_pass_17 : decode cX4_pass 17 = .ok (.invokespecial 75, 3) := by decide +kernel
theorem dX4_pass_20 : decode cX4_pass 20 = .ok (.athrow, 1) := by decide +kernel
theorem dX4_pass_21 : decode cX4_pass 21 = .ok (.aload_n 0, 1) := by decide +kernel
theorem dX4_pass_22 : decode cX4_pass 22 = .ok (.dup, 1) := by decide +kernel
theorem dX4_pass_23 : decode cX4_pass 23 = .ok (.getfield 173, 3) := by decide +kernel
theorem dX4_pass_26 : decode cX4_pass 26 = .ok (.iload_n 1, 1) := by decide +kernel
theorem dX4_pass_27 : decode cX4_pass 27 = .ok (.iadd, 1) := by decide +kernel
theorem dX4_pass_28 : decode cX4_pass 28 = .ok (.putfield 173, 3) := by decide +kernel
theorem dX4_pass_31 : decode cX4_pass 31 = .ok (.iconst 0, 1) := by decide +kernel
theorem dX4_pass_32 : decode cX4_pass 32 = .ok (.istore_n 2, 1) := by decide +kernel
theorem dX4_pass_33 : decode cX4_pass 33 = .ok (.iconst 0, 1) := by decide +kernel
theorem dX4_pass_34 : decode cX4_pass 34 = .ok (.istore_n 3, 1) := by decide +kernel
theorem dX4_pass_35 : decode cX4_pass 35 = .ok (.iload_n 3, 1) := by decide +kernel
theorem dX4_pass_36 : decode cX4_pass 36 = .ok (.aload_n 0, 1) := by decide +kernel
theorem dX4_pass_37 : decode cX4_pass 37 = .ok (.getfield 18, 3) := by decide +kernel
theorem dX4_pass_40 : decode cX4_pass 40 = .ok (.arraylength, 1) := by decide +kernel
theorem dX4_pass_41 : decode cX4_pass 41 = .ok (.if_icmp .ge 47, 3) := by decide +kernel
theorem dX4_pass_44 : decode cX4_pass 44 = .ok (.aload_n 0, 1) := by decide +kernel
theorem dX4_pass_45 : decode cX4_pass 45 = .ok (.getfield 18, 3) := by decide +kernel
theorem dX4_pass_48 : decode cX4_pass 48 = .ok (.iload_n 3, 1) := by decide +kernel
theorem dX4_pass_49 : decode cX4_pass 49 = .ok (.aaload, 1) := by decide +kernel
theorem dX4_pass_50 : decode cX4_pass 50 = .ok (.astore 4, 2) := by decide +kernel
theorem dX4_pass_52 : decode cX4_pass 52 = .ok (.aload 4, 2) := by decide +kernel
theorem dX4_pass_54 : decode cX4_pass 54 = .ok (.ifnull 28, 3) := by decide +kernel
theorem dX4_pass_57 : decode cX4_pass 57 = .ok (.aload 4, 2) := by decide +kernel
theorem dX4_pass_59 : decode cX4_pass 59 = .ok (.dup, 1) := by decide +kernel
theorem dX4_pass_60 : decode cX4_pass 60 = .ok (.getfield 116, 3) := by decide +kernel
theorem dX4_pass_63 : decode cX4_pass 63 = .ok (.iload_n 1, 1) := by decide +kernel
theorem dX4_pass_64 : decode cX4_pass 64 = .ok (.aload 4, 2) := by decide +kernel
theorem dX4_pass_66 : decode cX4_pass 66 = .ok (.invokevirtual 176, 3) := by decide +kernel
theorem dX4_pass_69 : decode cX4_pass 69 = .ok (.imul, 1) := by decide +kernel
theorem dX4_pass_70 : decode cX4_pass 70 = .ok (.iadd, 1) := by decide +kernel
theorem dX4_pass_71 : decode cX4_pass 71 = .ok (.putfield 116, 3) := by decide +kernel
theorem dX4_pass_74 : decode cX4_pass 74 = .ok (.iload_n 2, 1) := by decide +kernel
theorem dX4_pass_75 : decode cX4_pass 75 = .ok (.aload 4, 2) := by decide +kernel
theorem dX4_pass_77 : decode cX4_pass 77 = .ok (.getfield 116, 3) := by decide +kernel
theorem dX4_pass_80 : decode cX4_pass 80 = .ok (.iadd, 1) := by decide +kernel
theorem dX4_pass_81 : decode cX4_pass 81 = .ok (.istore_n 2, 1) := by decide +kernel
theorem dX4_pass_82 : decode cX4_pass 82 = .ok (.iinc 3 1, 3) := by decide +kernel
theorem dX4_pass_85 : decode cX4_pass 85 = .ok (.goto (-50), 3) := by decide +kernel
theorem dX4_pass_88 : decode cX4_pass 88 = .ok (.iload_n 2, 1) := by decide +kernel
theorem dX4_pass_89 : decode cX4_pass 89 = .ok (.ireturn, 1) := by decide +kernel
set_option maxRecDepth 20000 in
theorem ggX4_sorts_X4_needPrinter : GoodIn wsX4_sorts wsX4_needPrinter := goodIn_ca (goodIn_r _ [8, 1, 2, 9, 19, 20, 21, 22, 23, 24, 25, 26, 27, 28, 29] (by decide +kernel) (by decide +kernel)) (goodIn_sub (fun _ h => List.mem_cons_of_mem _ (List.mem_append_right _ h)) (by decide +kernel))
set_option maxRecDepth 20000 in
theorem gX4_sorts_X4_needPrinter : GoodIn wsX4_sorts (wsV RX4 98 RX4 yX4_needPrinter wsX4_needPrinter) := goodIn_app (goodIn_of _ (by decide +kernel)) ggX4_sorts_X4_needPrinter
set_option maxRecDepth 20000 in
theorem ggX4_sorts_X4_needSign : GoodIn wsX4_sorts wsX4_needSign := goodIn_ca (goodIn_r _ [12, 1, 2] (by decide +kernel) (by decide +kernel)) (goodIn_sub (fun _ h => List.mem_cons_of_mem _ (List.mem_append_right _ h)) (by decide +kernel))
set_option maxRecDepth 20000 in
theorem gX4_sorts_X4_needSign : GoodIn wsX4_sorts (va_wsS RX4 40 yX4_needSign wsX4_needSign) := goodIn_app (goodIn_of _ (by decide +kernel)) ggX4_sorts_X4_needSign
set_option maxRecDepth 20000 in
theorem ggX4_sorts_X2_at : GoodIn wsX4_sorts wsX2_at := goodIn_r _ [17, 18, 36] (by decide +kernel) (by decide +kernel)
set_option maxRecDepth 20000 in
theorem gX4_sorts_X2_at : GoodIn wsX4_sorts (wsV RX4 184 RX2 yX2_at wsX2_at) := goodIn_app (goodIn_of _ (by decide +kernel)) ggX4_sorts_X2_at
theorem dX4_sorts_0 : decode cX4_sorts 0 = .ok (.iload_n 1, 1) := by decide +kernel
theorem dX4_sorts_1 : decode cX4_sorts 1 = .ok (.iconst (-1), 1) := by decide +kernel
theorem dX4_sorts_2 : decode cX4_sorts 2 = .ok (.if_icmp .ne 10, 3) := by decide +kernel
theorem dX4_sorts_5 : decode cX4_sorts 5 = .ok (.aload_n 0, 1) := by decide +kernel
theorem dX4_sorts_6 : decode cX4_sorts 6 = .ok (.getfield 10, 3) := by decide +kernel
theorem dX4_sorts_9 : decode cX4_sorts 9 = .ok (.goto 11, 3) := by decide +kernel
theorem dX4_sorts_12 : decode cX4_sorts 12 = .ok (.aload_n 0, 1) := by decide +kernel
theorem dX4_sorts_13 : decode cX4_sorts 13 = .ok (.iload_n 1, 1) := by decide +kernel
theorem dX4_sorts_14 : decode cX4_sorts 14 = .ok (.invokevirtual 98, 3) := by decide +kernel
theorem dX4_sorts_17 : decode cX4_sorts 17 = .ok (.getfield 104, 3) := by decide +kernel
theorem dX4_sorts_20 : decode cX4_sorts 20 = .ok (.astore 4, 2) := by decide +kernel
theorem dX4_sorts_22 : decode cX4_sorts 22 = .ok (.iload_n 2, 1) := by decide +kernel
theorem dX4_sorts_23 : decode cX4_sorts 23 = .ok (.invokestatic 40, 3) := by decide +kernel
theorem dX4_sorts_26 : decode cX4_sorts 26 = .ok (.iload_n 3, 1) := by decide +kernel
theorem dX4_sorts_27 : decode cX4_sorts 27 = .ok (.ifCond .lt 9, 3) := by decide +kernel
theorem dX4_sorts_30 : decode cX4_sorts 30 = .ok (.iload_n 3, 1) := by decide +kernel
theorem dX4_sorts_31 : decode cX4_sorts 31 = .ok (.bipush 10, 2) := by decide +kernel
theorem dX4_sorts_33 : decode cX4_sorts 33 = .ok (.if_icmp .lt 13, 3) := by decide +kernel
theorem dX4_sorts_36 : decode cX4_sorts 36 = .ok (.new 179, 3) := by decide +kernel
theorem dX4_sorts_39 : decode cX4_sorts 39 = .ok (.dup, 1) := by decide +kernel
theorem dX4_sorts_40 : decode cX4_sorts 40 = .ok (.ldc 181, 2) := by decide +kernel
theorem dX4_sorts_42 : decode cX4_sorts 42 = .ok (.invokespecial 183, 3) := by decide +kernel
theorem dX4_sorts_45 : decode cX4_sorts 45 = .ok (.athrow, 1) := by decide +kernel
theorem dX4_sorts_46 : decode cX4_sorts 46 = .ok (.aload 4, 2) := by decide +kernel
theorem dX4_sorts_48 : decode cX4_sorts 48 = .ok (.iload_n 2, 1) := by decide +kernel
theorem dX4_sorts_49 : decode cX4_sorts 49 = .ok (.iload_n 3, 1) := by decide +kernel
theorem dX4_sorts_50 : decode cX4_sorts 50 = .ok (.invokevirtual 184, 3) := by decide +kernel
theorem dX4_sorts_53 : decode cX4_sorts 53 = .ok (.ireturn, 1) := by decide +kernel
set_option maxRecDepth 20000 in
theorem ggX4_printer_X4_needPrinter : GoodIn wsX4_printer wsX4_needPrinter := goodIn_ca (goodIn_r _ [7, 1, 2, 8, 30, 31, 32, 33, 34, 35, 36, 37, 38, 39, 40] (by decide +kernel) (by decide +kernel)) (goodIn_sub (fun _ h => List.mem_cons_of_mem _ (List.mem_append_right _ h)) (by decide +kernel))
set_option maxRecDepth 20000 in
theorem gX4_printer_X4_needPrinter : GoodIn wsX4_printer (wsV RX4 98 RX4 yX4_needPrinter wsX4_needPrinter) := goodIn_app (goodIn_of _ (by decide +kernel)) ggX4_printer_X4_needPrinter
set_option maxRecDepth 20000 in
theorem ggX4_printer_X0_number : GoodIn wsX4_printer wsX0_number := goodIn_r _ [13, 14, 15, 16, 17, 18, 19, 20, 21, 22, 23, 24, 25, 26, 27, 28, 29, 41, 42, 43, 44, 45, 46, 47] (by decide +kernel) (by decide +kernel)
set_option maxRecDepth 20000 in
theorem gX4_printer_X0_number : GoodIn wsX4_printer (wsV RX4 189 RX0 yX0_number wsX0_number) := goodIn_app (goodIn_of _ (by decide +kernel)) ggX4_printer_X0_number
theorem dX4_printer_0 : decode cX4_printer 0 = .ok (.aload_n 0, 1) := by decide +kernel
theorem dX4_printer_1 : decode cX4_printer 1 = .ok (.iload_n 1, 1) := by decide +kernel
theorem dX4_printer_2 : decode cX4_printer 2 = .ok (.invokevirtual 98, 3) := by decide +kernel
theorem dX4_printer_5 : decode cX4_printer 5 = .ok (.astore_n 3, 1) := by decide +kernel
theorem dX4_printer_6 : decode cX4_printer 6 = .ok (.iload_n 2, 1) := by decide +kernel
theorem dX4_printer_7 : decode cX4_printer 7 = .ok (.ifCond .lt 9, 3) := by decide +kernel
theorem dX4_printer_10 : decode cX4_printer 10 = .ok (.iload_n 2, 1) := by decide +kernel
theorem dX4_printer_11 : decode cX4_printer 11 = .ok (.bipush 7, 2) := by decide +kernel
theorem dX4_printer_13 : decode cX4_printer 13 = .ok (.if_icmp .lt 13, 3) := by decide +kernel
theorem dX4_printer_16 : decode cX4_printer 16 = .ok (.new 179, 3) := by decide +kernel
theorem dX4_printer_19 : decode cX4_printer 19 = .ok (.dup, 1) := by decide +kernel
theorem dX4_printer_20 : decode cX4_printer 20 = .ok (.ldc 187, 2) := by decide +kernel
theorem dX4_printer_22 : decode cX4_printer 22 = .ok (.invokespecial 183, 3) := by decide +kernel
theorem dX4_printer_25 : decode cX4_printer 25 = .ok (.athrow, 1) := by decide +kernel
theorem dX4_printer_26 : decode cX4_printer 26 = .ok (.aload_n 3, 1) := by decide +kernel
theorem dX4_printer_27 : decode cX4_printer 27 = .ok (.iload_n 2, 1) := by decide +kernel
theorem dX4_printer_28 : decode cX4_printer 28 = .ok (.invokevirtual 189, 3) := by decide +kernel
theorem dX4_printer_31 : decode cX4_printer 31 = .ok (.ireturn, 1) := by decide +kernel
set_option maxRecDepth 20000 in
theorem ggX4_count_X4_number : GoodIn wsX4_count wsX4_number := goodIn_r _ [7, 8, 9, 10, 11, 12, 13, 14, 15, 16, 17, 18, 19, 20, 21, 22, 23, 24, 25, 26, 27, 28, 29, 30, 31, 32, 33] (by decide +kernel) (by decide +kernel)
set_option maxRecDepth 20000 in
theorem gX4_count_X4_number : GoodIn wsX4_count (wsV RX4 194 RX4 yX4_number wsX4_number) := goodIn_app (goodIn_of _ (by decide +kernel)) ggX4_count_X4_number
theorem dX4_count_0 : decode cX4_count 0 = .ok (.iload_n 1, 1) := by decide +kernel
theorem dX4_count_1 : decode cX4_count 1 = .ok (.ifCond .lt 9, 3) := by decide +kernel
theorem dX4_count_4 : decode cX4_count 4 = .ok (.iload_n 1, 1) := by decide +kernel
theorem dX4_count_5 : decode cX4_count 5 = .ok (.bipush 8, 2) := by decide +kernel
theorem dX4_count_7 : decode cX4_count 7 = .ok (.if_icmp .lt 13, 3) := by decide +kernel
theorem dX4_count_10 : decode cX4_count 10 = .ok (.new 179, 3) := by decide +kernel
theorem dX4_count_13 : decode cX4_count 13 = .ok (.dup, 1) := by decide +kernel
theorem dX4_count_14 : decode cX4_count 14 = .ok (.ldc 192, 2) := by decide +kernel
theorem dX4_count_16 : decode cX4_count 16 = .ok (.invokespecial 183, 3) := by decide +kernel
theorem dX4_count_19 : decode cX4_count 19 = .ok (.athrow, 1) := by decide +kernel
theorem dX4_count_20 : decode cX4_count 20 = .ok (.aload_n 0, 1) := by decide +kernel
theorem dX4_count_21 : decode cX4_count 21 = .ok (.iload_n 1, 1) := by decide +kernel
theorem dX4_count_22 : decode cX4_count 22 = .ok (.invokevirtual 194, 3) := by decide +kernel
theorem dX4_count_25 : decode cX4_count 25 = .ok (.ireturn, 1) := by decide +kernel
set_option maxRecDepth 20000 in
theorem ggX4_takes_X4_needPrinter : GoodIn wsX4_takes wsX4_needPrinter := goodIn_ca (goodIn_r _ [6, 7, 8, 9, 69, 70, 71, 72, 73, 74, 75, 76, 77, 78, 79] (by decide +kernel) (by decide +kernel)) (goodIn_sub (fun _ h => List.mem_cons_of_mem _ (List.mem_append_left _ (List.mem_append_right _ h))) (by decide +kernel))
set_option maxRecDepth 20000 in
theorem gX4_takes_X4_needPrinter : GoodIn wsX4_takes (wsV RX4 98 RX4 yX4_needPrinter wsX4_needPrinter) := goodIn_app (goodIn_of _ (by decide +kernel)) ggX4_takes_X4_needPrinter
set_option maxRecDepth 20000 in
theorem ggX4_takes_X4_needWord : GoodIn wsX4_takes wsX4_needWord := goodIn_ca (goodIn_r _ [13, 14, 15, 16, 17, 18, 19, 20, 21, 22, 23, 24, 69, 70, 71, 72, 73, 74, 75, 76, 77, 78, 79, 86, 87] (by decide +kernel) (by decide +kernel)) (goodIn_sub (fun _ h => List.mem_cons_of_mem _ (List.mem_append_right _ h)) (by decide +kernel))
set_option maxRecDepth 20000 in
theorem gX4_takes_X4_needWord : GoodIn wsX4_takes (wsV RX4 129 RX4 yX4_needWord wsX4_needWord) := goodIn_app (goodIn_of _ (by decide +kernel)) ggX4_takes_X4_needWord
set_option maxRecDepth 20000 in
theorem ggX4_takes_X1_fillFrom : GoodIn wsX4_takes wsX1_fillFrom := goodIn_r _ [29, 30, 31, 32, 33, 34, 35, 36, 37, 38, 39, 40, 88, 89, 90] (by decide +kernel) (by decide +kernel)
set_option maxRecDepth 20000 in
theorem gX4_takes_X1_fillFrom : GoodIn wsX4_takes (wsV RX4 133 RX1 yX1_fillFrom wsX1_fillFrom) := goodIn_app (goodIn_of _ (by decide +kernel)) ggX4_takes_X1_fillFrom
set_option maxRecDepth 20000 in
theorem ggX4_takes_X1_lay : GoodIn wsX4_takes wsX1_lay := goodIn_r _ [44, 45, 30, 46, 47, 48, 49, 50, 51, 52, 20, 53, 24, 54, 55, 56, 28, 57, 58, 59, 60, 61, 62, 63, 64, 65, 23, 66, 67, 5, 68, 88, 89, 86, 87] (by decide +kernel) (by decide +kernel)
set_option maxRecDepth 20000 in
theorem gX4_takes_X1_lay : GoodIn wsX4_takes (wsV RX4 137 RX1 yX1_lay wsX1_lay) := goodIn_app (goodIn_of _ (by decide +kernel)) ggX4_takes_X1_lay
theorem dX4_takes_0 : decode cX4_takes 0 = .ok (.aload_n 0, 1) := by decide +kernel
theorem dX4_takes_1 : decode cX4_takes 1 = .ok (.iload_n 1, 1) := by decide +kernel
theorem dX4_takes_2 : decode cX4_takes 2 = .ok (.invokevirtual 98, 3) := by decide +kernel
theorem dX4_takes_5 : decode cX4_takes 5 = .ok (.astore_n 3, 1) := by decide +kernel
theorem dX4_takes_6 : decode cX4_takes 6 = .ok (.aload_n 0, 1) := by decide +kernel
theorem dX4_takes_7 : decode cX4_takes 7 = .ok (.iload_n 2, 1) := by decide +kernel
theorem dX4_takes_8 : decode cX4_takes 8 = .ok (.invokevirtual 129, 3) := by decide +kernel
theorem dX4_takes_11 : decode cX4_takes 11 = .ok (.astore 4, 2) := by decide +kernel
theorem dX4_takes_13 : decode cX4_takes 13 = .ok (.aload_n 0, 1) := by decide +kernel
theorem dX4_takes_14 : decode cX4_takes 14 = .ok (.getfield 36, 3) := by decide +kernel
theorem dX4_takes_17 : decode cX4_takes 17 = .ok (.aload_n 3, 1) := by decide +kernel
theorem dX4_takes_18 : decode cX4_takes 18 = .ok (.getfield 104, 3) := by decide +kernel
theorem dX4_takes_21 : decode cX4_takes 21 = .ok (.invokevirtual 133, 3) := by decide +kernel
theorem dX4_takes_24 : decode cX4_takes 24 = .ok (.aload_n 0, 1) := by decide +kernel
theorem dX4_takes_25 : decode cX4_takes 25 = .ok (.getfield 36, 3) := by decide +kernel
theorem dX4_takes_28 : decode cX4_takes 28 = .ok (.aload 4, 2) := by decide +kernel
theorem dX4_takes_30 : decode cX4_takes 30 = .ok (.invokevirtual 137, 3) := by decide +kernel
theorem dX4_takes_33 : decode cX4_takes 33 = .ok (.ireturn, 1) := by decide +kernel
set_option maxRecDepth 20000 in
theorem ggX4_lacks_X4_needPrinter : GoodIn wsX4_lacks wsX4_needPrinter := goodIn_ca (goodIn_r _ [5, 6, 7, 8, 48, 49, 50, 51, 52, 53, 54, 55, 56, 57, 58] (by decide +kernel) (by decide +kernel)) (goodIn_sub (fun _ h => List.mem_cons_of_mem _ (List.mem_append_left _ (List.mem_append_right _ h))) (by decide +kernel))
set_option maxRecDepth 20000 in
theorem gX4_lacks_X4_needPrinter : GoodIn wsX4_lacks (wsV RX4 98 RX4 yX4_needPrinter wsX4_needPrinter) := goodIn_app (goodIn_of _ (by decide +kernel)) ggX4_lacks_X4_needPrinter
set_option maxRecDepth 20000 in
theorem ggX4_lacks_X4_needWord : GoodIn wsX4_lacks wsX4_needWord := goodIn_ca (goodIn_r _ [12, 13, 14, 15, 16, 17, 18, 19, 20, 21, 22, 23, 48, 49, 50, 51, 52, 53, 54, 55, 56, 57, 58, 59, 60] (by decide +kernel) (by decide +kernel)) (goodIn_sub (fun _ h => List.mem_cons_of_mem _ (List.mem_append_right _ h)) (by decide +kernel))
set_option maxRecDepth 20000 in
theorem gX4_lacks_X4_needWord : GoodIn wsX4_lacks (wsV RX4 129 RX4 yX4_needWord wsX4_needWord) := goodIn_app (goodIn_of _ (by decide +kernel)) ggX4_lacks_X4_needWord
set_option maxRecDepth 20000 in
theorem ggX4_lacks_X3_howOften : GoodIn wsX4_lacks wsX3_howOften := goodIn_r _ [27, 23, 28, 29, 30, 19, 31, 22, 59, 60] (by decide +kernel) (by decide +kernel)
set_option maxRecDepth 20000 in
theorem gX4_lacks_X3_howOften : GoodIn wsX4_lacks (wsV RX4 195 RX3 yX3_howOften wsX3_howOften) := goodIn_app (goodIn_of _ (by decide +kernel)) ggX4_lacks_X3_howOften
set_option maxRecDepth 20000 in
theorem ggX4_lacks_X2_ofSign : GoodIn wsX4_lacks wsX2_ofSign := goodIn_r _ [36, 37, 38, 39, 35, 40, 41, 61] (by decide +kernel) (by decide +kernel)
set_option maxRecDepth 20000 in
theorem gX4_lacks_X2_ofSign : GoodIn wsX4_lacks (wsV RX4 58 RX2 yX2_ofSign wsX2_ofSign) := goodIn_app (goodIn_of _ (by decide +kernel)) ggX4_lacks_X2_ofSign
theorem dX4_lacks_0 : decode cX4_lacks 0 = .ok (.aload_n 0, 1) := by decide +kernel
theorem dX4_lacks_1 : decode cX4_lacks 1 = .ok (.iload_n 1, 1) := by decide +kernel
theorem dX4_lacks_2 : decode cX4_lacks 2 = .ok (.invokevirtual 98, 3) := by decide +kernel
theorem dX4_lacks_5 : decode cX4_lacks 5 = .ok (.astore_n 3, 1) := by decide +kernel
theorem dX4_lacks_6 : decode cX4_lacks 6 = .ok (.aload_n 0, 1) := by decide +kernel
theorem dX4_lacks_7 : decode cX4_lacks 7 = .ok (.iload_n 2, 1) := by decide +kernel
theorem dX4_lacks_8 : decode cX4_lacks 8 = .ok (.invokevirtual 129, 3) := by decide +kernel
theorem dX4_lacks_11 : decode cX4_lacks 11 = .ok (.astore 4, 2) := by decide +kernel
theorem dX4_lacks_13 : decode cX4_lacks 13 = .ok (.iconst (-1), 1) := by decide +kernel
theorem dX4_lacks_14 : decode cX4_lacks 14 = .ok (.istore 5, 2) := by decide +kernel
theorem dX4_lacks_16 : decode cX4_lacks 16 = .ok (.iconst 0, 1) := by decide +kernel
theorem dX4_lacks_17 : decode cX4_lacks 17 = .ok (.istore 6, 2) := by decide +kernel
theorem dX4_lacks_19 : decode cX4_lacks 19 = .ok (.iconst 0, 1) := by decide +kernel
theorem dX4_lacks_20 : decode cX4_lacks 20 = .ok (.istore 7, 2) := by decide +kernel
theorem dX4_lacks_22 : decode cX4_lacks 22 = .ok (.iload 7, 2) := by decide +kernel
theorem dX4_lacks_24 : decode cX4_lacks 24 = .ok (.bipush 26, 2) := by decide +kernel
theorem dX4_lacks_26 : decode cX4_lacks 26 = .ok (.if_icmp .ge 43, 3) := by decide +kernel
theorem dX4_lacks_29 : decode cX4_lacks 29 = .ok (.aload 4, 2) := by decide +kernel
theorem dX4_lacks_31 : decode cX4_lacks 31 = .ok (.iload 7, 2) := by decide +kernel
theorem dX4_lacks_33 : decode cX4_lacks 33 = .ok (.invokevirtual 195, 3) := by decide +kernel
theorem dX4_lacks_36 : decode cX4_lacks 36 = .ok (.aload_n 3, 1) := by decide +kernel
theorem dX4_lacks_37 : decode cX4_lacks 37 = .ok (.getfield 104, 3) := by decide +kernel
theorem dX4_lacks_40 : decode cX4_lacks 40 = .ok (.iload 7, 2) := by decide +kernel
theorem dX4_lacks_42 : decode cX4_lacks 42 = .ok (.invokevirtual 58, 3) := by decide +kernel
theorem dX4_lacks_45 : decode cX4_lacks 45 = .ok (.isub, 1) := by decide +kernel
theorem dX4_lacks_46 : decode cX4_lacks 46 = .ok (.istore 8, 2) := by decide +kernel
theorem dX4_lacks_48 : decode cX4_lacks 48 = .ok (.iload 8, 2) := by decide +kernel
theorem dX4_lacks_50 : decode cX4_lacks 50 = .ok (.iload 6, 2) := by decide +kernel
theorem dX4_lacks_52 : decode cX4_lacks 52 = .ok (.if_icmp .le 11, 3) := by decide +kernel
theorem dX4_lacks_55 : decode cX4_lacks 55 = .ok (.iload 8, 2) := by decide +kernel
theorem dX4_lacks_57 : decode cX4_lacks 57 = .ok (.istore 6, 2) := by decide +kernel
theorem dX4_lacks_59 : decode cX4_lacks 59 = .ok (.iload 7, 2) := by decide +kernel
theorem dX4_lacks_61 : decode cX4_lacks 61 = .ok (.istore 5, 2) := by decide +kernel
theorem dX4_lacks_63 : decode cX4_lacks 63 = .ok (.iinc 7 1, 3) := by decide +kernel
theorem dX4_lacks_66 : decode cX4_lacks 66 = .ok (.goto (-44), 3) := by decide +kernel
theorem dX4_lacks_69 : decode cX4_lacks 69 = .ok (.iload 5, 2) := by decide +kernel
theorem dX4_lacks_71 : decode cX4_lacks 71 = .ok (.ireturn, 1) := by decide +kernel
set_option maxRecDepth 20000 in
theorem ggX4_bears_X4_needPrinter : GoodIn wsX4_bears wsX4_needPrinter := goodIn_ca (goodIn_r _ [5, 6, 7, 8, 25, 26, 27, 28, 29, 30, 31, 32, 33, 34, 35] (by decide +kernel) (by decide +kernel)) (goodIn_sub (fun _ h => List.mem_cons_of_mem _ (List.mem_append_right _ h)) (by decide +kernel))
set_option maxRecDepth 20000 in
theorem gX4_bears_X4_needPrinter : GoodIn wsX4_bears (wsV RX4 98 RX4 yX4_needPrinter wsX4_needPrinter) := goodIn_app (goodIn_of _ (by decide +kernel)) ggX4_bears_X4_needPrinter
set_option maxRecDepth 20000 in
theorem ggX4_bears_X2_greatestWear : GoodIn wsX4_bears wsX2_greatestWear := goodIn_r _ [13, 14, 15, 16, 17, 18, 36] (by decide +kernel) (by decide +kernel)
set_option maxRecDepth 20000 in
theorem gX4_bears_X2_greatestWear : GoodIn wsX4_bears (wsV RX4 198 RX2 yX2_greatestWear wsX2_greatestWear) := goodIn_app (goodIn_of _ (by decide +kernel)) ggX4_bears_X2_greatestWear
theorem dX4_bears_0 : decode cX4_bears 0 = .ok (.aload_n 0, 1) := by decide +kernel
theorem dX4_bears_1 : decode cX4_bears 1 = .ok (.iload_n 1, 1) := by decide +kernel
theorem dX4_bears_2 : decode cX4_bears 2 = .ok (.invokevirtual 98, 3) := by decide +kernel
theorem dX4_bears_5 : decode cX4_bears 5 = .ok (.astore_n 2, 1) := by decide +kernel
theorem dX4_bears_6 : decode cX4_bears 6 = .ok (.aload_n 2, 1) := by decide +kernel
theorem dX4_bears_7 : decode cX4_bears 7 = .ok (.getfield 143, 3) := by decide +kernel
theorem dX4_bears_10 : decode cX4_bears 10 = .ok (.invokevirtual 198, 3) := by decide +kernel
theorem dX4_bears_13 : decode cX4_bears 13 = .ok (.istore_n 3, 1) := by decide +kernel
theorem dX4_bears_14 : decode cX4_bears 14 = .ok (.iload_n 3, 1) := by decide +kernel
theorem dX4_bears_15 : decode cX4_bears 15 = .ok (.iconst (-1), 1) := by decide +kernel
theorem dX4_bears_16 : decode cX4_bears 16 = .ok (.if_icmp .ne 7, 3) := by decide +kernel
theorem dX4_bears_19 : decode cX4_bears 19 = .ok (.iconst 0, 1) := by decide +kernel
theorem dX4_bears_20 : decode cX4_bears 20 = .ok (.goto 12, 3) := by decide +kernel
theorem dX4_bears_23 : decode cX4_bears 23 = .ok (.bipush 50, 2) := by decide +kernel
theorem dX4_bears_25 : decode cX4_bears 25 = .ok (.bipush 10, 2) := by decide +kernel
theorem dX4_bears_27 : decode cX4_bears 27 = .ok (.iload_n 3, 1) := by decide +kernel
theorem dX4_bears_28 : decode cX4_bears 28 = .ok (.isub, 1) := by decide +kernel
theorem dX4_bears_29 : decode cX4_bears 29 = .ok (.imul, 1) := by decide +kernel
theorem dX4_bears_30 : decode cX4_bears 30 = .ok (.iconst 1, 1) := by decide +kernel
theorem dX4_bears_31 : decode cX4_bears 31 = .ok (.isub, 1) := by decide +kernel
theorem dX4_bears_32 : decode cX4_bears 32 = .ok (.ireturn, 1) := by decide +kernel
set_option maxRecDepth 20000 in
theorem ggX4_saves_X1_fillWithoutEnd : GoodIn wsX4_saves wsX1_fillWithoutEnd := goodIn_r _ [6, 7, 8, 9, 10, 11, 67, 68] (by decide +kernel) (by decide +kernel)
set_option maxRecDepth 20000 in
theorem gX4_saves_X1_fillWithoutEnd : GoodIn wsX4_saves (wsV RX4 201 RX1 yX1_fillWithoutEnd wsX1_fillWithoutEnd) := goodIn_app (goodIn_of _ (by decide +kernel)) ggX4_saves_X1_fillWithoutEnd
set_option maxRecDepth 20000 in
theorem ggX4_saves_X4_needWord : GoodIn wsX4_saves wsX4_needWord := goodIn_ca (goodIn_r _ [16, 17, 18, 19, 20, 21, 22, 23, 24, 25, 26, 27, 56, 57, 58, 59, 60, 61, 62, 63, 64, 65, 66, 69, 70] (by decide +kernel) (by decide +kernel)) (goodIn_sub (fun _ h => List.mem_cons_of_mem _ (List.mem_append_right _ h)) (by decide +kernel))
set_option maxRecDepth 20000 in
theorem gX4_saves_X4_needWord : GoodIn wsX4_saves (wsV RX4 129 RX4 yX4_needWord wsX4_needWord) := goodIn_app (goodIn_of _ (by decide +kernel)) ggX4_saves_X4_needWord
set_option maxRecDepth 20000 in
theorem ggX4_saves_X1_lay : GoodIn wsX4_saves wsX1_lay := goodIn_r _ [31, 32, 7, 8, 9, 10, 11, 33, 34, 35, 23, 36, 27, 37, 38, 39, 5, 40, 41, 42, 43, 44, 45, 46, 47, 48, 26, 49, 50, 15, 51, 67, 68, 69, 70] (by decide +kernel) (by decide +kernel)
end
section
set_option maxRecDepth 20000 in
theorem gX4_saves_X1_lay : GoodIn wsX4_saves (wsV RX4 137 RX1 yX1_lay wsX1_lay) := goodIn_app (goodIn_of _ (by decide +kernel)) ggX4_saves_X1_lay
set_option maxRecDepth 20000 in
theorem ggX4_saves_X1_takenOfPlenty : GoodIn wsX4_saves wsX1_takenOfPlenty := goodIn_r _ [55, 7, 67, 68] (by decide +kernel) (by decide +kernel)
set_option maxRecDepth 20000 in
theorem gX4_saves_X1_takenOfPlenty : GoodIn wsX4_saves (wsV RX4 204 RX1 yX1_takenOfPlenty wsX1_takenOfPlenty) := goodIn_app (goodIn_of _ (by decide +kernel)) ggX4_saves_X1_takenOfPlenty
theorem dX4_saves_0 : decode cX4_saves 0 = .ok (.aload_n 0, 1) := by decide +kernel
theorem dX4_saves_1 : decode cX4_saves 1 = .ok (.getfield 36, 3) := by decide +kernel
theorem dX4_saves_4 : decode cX4_saves 4 = .ok (.invokevirtual 201, 3) := by decide +kernel
theorem dX4_saves_7 : decode cX4_saves 7 = .ok (.aload_n 0, 1) := by decide +kernel
theorem dX4_saves_8 : decode cX4_saves 8 = .ok (.getfield 36, 3) := by decide +kernel
theorem dX4_saves_11 : decode cX4_saves 11 = .ok (.aload_n 0, 1) := by decide +kernel
theorem dX4_saves_12 : decode cX4_saves 12 = .ok (.iload_n 1, 1) := by decide +kernel
theorem dX4_saves_13 : decode cX4_saves 13 = .ok (.invokevirtual 129, 3) := by decide +kernel
theorem dX4_saves_16 : decode cX4_saves 16 = .ok (.invokevirtual 137, 3) := by decide +kernel
theorem dX4_saves_19 : decode cX4_saves 19 = .ok (.pop, 1) := by decide +kernel
theorem dX4_saves_20 : decode cX4_saves 20 = .ok (.aload_n 0, 1) := by decide +kernel
theorem dX4_saves_21 : decode cX4_saves 21 = .ok (.getfield 36, 3) := by decide +kernel
theorem dX4_saves_24 : decode cX4_saves 24 = .ok (.aload_n 0, 1) := by decide +kernel
theorem dX4_saves_25 : decode cX4_saves 25 = .ok (.iload_n 2, 1) := by decide +kernel
theorem dX4_saves_26 : decode cX4_saves 26 = .ok (.invokevirtual 129, 3) := by decide +kernel
theorem dX4_saves_29 : decode cX4_saves 29 = .ok (.invokevirtual 137, 3) := by decide +kernel
theorem dX4_saves_32 : decode cX4_saves 32 = .ok (.pop, 1) := by decide +kernel
theorem dX4_saves_33 : decode cX4_saves 33 = .ok (.iconst (-1), 1) := by decide +kernel
theorem dX4_saves_34 : decode cX4_saves 34 = .ok (.istore_n 3, 1) := by decide +kernel
theorem dX4_saves_35 : decode cX4_saves 35 = .ok (.iconst 0, 1) := by decide +kernel
theorem dX4_saves_36 : decode cX4_saves 36 = .ok (.istore 4, 2) := by decide +kernel
theorem dX4_saves_38 : decode cX4_saves 38 = .ok (.bipush 26, 2) := by decide +kernel
theorem dX4_saves_40 : decode cX4_saves 40 = .ok (.istore 5, 2) := by decide +kernel
theorem dX4_saves_42 : decode cX4_saves 42 = .ok (.iload 5, 2) := by decide +kernel
theorem dX4_saves_44 : decode cX4_saves 44 = .ok (.bipush 29, 2) := by decide +kernel
theorem dX4_saves_46 : decode cX4_saves 46 = .ok (.if_icmp .ge 34, 3) := by decide +kernel
theorem dX4_saves_49 : decode cX4_saves 49 = .ok (.aload_n 0, 1) := by decide +kernel
theorem dX4_saves_50 : decode cX4_saves 50 = .ok (.getfield 36, 3) := by decide +kernel
theorem dX4_saves_53 : decode cX4_saves 53 = .ok (.iload 5, 2) := by decide +kernel
theorem dX4_saves_55 : decode cX4_saves 55 = .ok (.invokevirtual 204, 3) := by decide +kernel
theorem dX4_saves_58 : decode cX4_saves 58 = .ok (.istore 6, 2) := by decide +kernel
theorem dX4_saves_60 : decode cX4_saves 60 = .ok (.iload 6, 2) := by decide +kernel
theorem dX4_saves_62 : decode cX4_saves 62 = .ok (.iload 4, 2) := by decide +kernel
theorem dX4_saves_64 : decode cX4_saves 64 = .ok (.if_icmp .le 10, 3) := by decide +kernel
theorem dX4_saves_67 : decode cX4_saves 67 = .ok (.iload 6, 2) := by decide +kernel
theorem dX4_saves_69 : decode cX4_saves 69 = .ok (.istore 4, 2) := by decide +kernel
theorem dX4_saves_71 : decode cX4_saves 71 = .ok (.iload 5, 2) := by decide +kernel
theorem dX4_saves_73 : decode cX4_saves 73 = .ok (.istore_n 3, 1) := by decide +kernel
theorem dX4_saves_74 : decode cX4_saves 74 = .ok (.iinc 5 1, 3) := by decide +kernel
theorem dX4_saves_77 : decode cX4_saves 77 = .ok (.goto (-35), 3) := by decide +kernel
theorem dX4_saves_80 : decode cX4_saves 80 = .ok (.iload_n 3, 1) := by decide +kernel
theorem dX4_saves_81 : decode cX4_saves 81 = .ok (.ireturn, 1) := by decide +kernel
set_option maxRecDepth 20000 in
theorem ggX4_times_X4_needPrinter : GoodIn wsX4_times wsX4_needPrinter := goodIn_ca (goodIn_r _ [6, 7, 8, 9, 82, 83, 84, 85, 86, 87, 88, 89, 90, 91, 92] (by decide +kernel) (by decide +kernel)) (goodIn_sub (fun _ h => List.mem_cons_of_mem _ (List.mem_append_left _ (List.mem_append_right _ h))) (by decide +kernel))
set_option maxRecDepth 20000 in
theorem gX4_times_X4_needPrinter : GoodIn wsX4_times (wsV RX4 98 RX4 yX4_needPrinter wsX4_needPrinter) := goodIn_app (goodIn_of _ (by decide +kernel)) ggX4_times_X4_needPrinter
set_option maxRecDepth 20000 in
theorem ggX4_times_X4_needWord : GoodIn wsX4_times wsX4_needWord := goodIn_ca (goodIn_r _ [13, 14, 15, 16, 17, 18, 19, 20, 21, 22, 23, 24, 82, 83, 84, 85, 86, 87, 88, 89, 90, 91, 92, 99, 100] (by decide +kernel) (by decide +kernel)) (goodIn_sub (fun _ h => List.mem_cons_of_mem _ (List.mem_append_right _ h)) (by decide +kernel))
set_option maxRecDepth 20000 in
theorem gX4_times_X4_needWord : GoodIn wsX4_times (wsV RX4 129 RX4 yX4_needWord wsX4_needWord) := goodIn_app (goodIn_of _ (by decide +kernel)) ggX4_times_X4_needWord
set_option maxRecDepth 20000 in
theorem ggX4_times_X1_fillFrom : GoodIn wsX4_times wsX1_fillFrom := goodIn_r _ [29, 30, 31, 32, 33, 34, 35, 36, 37, 38, 39, 40, 101, 102, 103] (by decide +kernel) (by decide +kernel)
set_option maxRecDepth 20000 in
theorem gX4_times_X1_fillFrom : GoodIn wsX4_times (wsV RX4 133 RX1 yX1_fillFrom wsX1_fillFrom) := goodIn_app (goodIn_of _ (by decide +kernel)) ggX4_times_X1_fillFrom
set_option maxRecDepth 20000 in
theorem ggX4_times_X1_layTillOneLacks : GoodIn wsX4_times wsX1_layTillOneLacks := goodIn_r _ [44, 45, 46, 47, 28, 48, 49, 30, 50, 51, 52, 53, 54, 55, 56, 20, 57, 24, 58, 59, 60, 61, 62, 63, 64, 65, 66, 67, 68, 69, 23, 70, 71, 5, 72, 73, 74, 75, 76, 77, 78, 79, 80, 81, 101, 102, 99, 100] (by decide +kernel) (by decide +kernel)
set_option maxRecDepth 20000 in
theorem gX4_times_X1_layTillOneLacks : GoodIn wsX4_times (wsV RX4 207 RX1 yX1_layTillOneLacks wsX1_layTillOneLacks) := goodIn_app (goodIn_of _ (by decide +kernel)) ggX4_times_X1_layTillOneLacks
theorem dX4_times_0 : decode cX4_times 0 = .ok (.aload_n 0, 1) := by decide +kernel
theorem dX4_times_1 : decode cX4_times 1 = .ok (.iload_n 1, 1) := by decide +kernel
theorem dX4_times_2 : decode cX4_times 2 = .ok (.invokevirtual 98, 3) := by decide +kernel
theorem dX4_times_5 : decode cX4_times 5 = .ok (.astore_n 3, 1) := by decide +kernel
theorem dX4_times_6 : decode cX4_times 6 = .ok (.aload_n 0, 1) := by decide +kernel
theorem dX4_times_7 : decode cX4_times 7 = .ok (.iload_n 2, 1) := by decide +kernel
theorem dX4_times_8 : decode cX4_times 8 = .ok (.invokevirtual 129, 3) := by decide +kernel
theorem dX4_times_11 : decode cX4_times 11 = .ok (.astore 4, 2) := by decide +kernel
theorem dX4_times_13 : decode cX4_times 13 = .ok (.aload_n 0, 1) := by decide +kernel
theorem dX4_times_14 : decode cX4_times 14 = .ok (.getfield 36, 3) := by decide +kernel
theorem dX4_times_17 : decode cX4_times 17 = .ok (.aload_n 3, 1) := by decide +kernel
theorem dX4_times_18 : decode cX4_times 18 = .ok (.getfield 104, 3) := by decide +kernel
theorem dX4_times_21 : decode cX4_times 21 = .ok (.invokevirtual 133, 3) := by decide +kernel
theorem dX4_times_24 : decode cX4_times 24 = .ok (.aload_n 0, 1) := by decide +kernel
theorem dX4_times_25 : decode cX4_times 25 = .ok (.getfield 36, 3) := by decide +kernel
theorem dX4_times_28 : decode cX4_times 28 = .ok (.aload 4, 2) := by decide +kernel
theorem dX4_times_30 : decode cX4_times 30 = .ok (.invokevirtual 207, 3) := by decide +kernel
theorem dX4_times_33 : decode cX4_times 33 = .ok (.ireturn, 1) := by decide +kernel
set_option maxRecDepth 20000 in
theorem ggX4_mean_X2_inAll : GoodIn wsX4_mean wsX2_inAll := goodIn_r _ [6, 7, 23] (by decide +kernel) (by decide +kernel)
set_option maxRecDepth 20000 in
theorem gX4_mean_X2_inAll : GoodIn wsX4_mean (wsV RX4 146 RX2 yX2_inAll wsX2_inAll) := goodIn_app (goodIn_of _ (by decide +kernel)) ggX4_mean_X2_inAll
set_option maxRecDepth 20000 in
theorem ggX4_mean_X2_wearInAll : GoodIn wsX4_mean wsX2_wearInAll := goodIn_r _ [11, 7, 23] (by decide +kernel) (by decide +kernel)
set_option maxRecDepth 20000 in
theorem gX4_mean_X2_wearInAll : GoodIn wsX4_mean (wsV RX4 210 RX2 yX2_wearInAll wsX2_wearInAll) := goodIn_app (goodIn_of _ (by decide +kernel)) ggX4_mean_X2_wearInAll
theorem dX4_mean_0 : decode cX4_mean 0 = .ok (.aload_n 0, 1) := by decide +kernel
theorem dX4_mean_1 : decode cX4_mean 1 = .ok (.getfield 10, 3) := by decide +kernel
theorem dX4_mean_4 : decode cX4_mean 4 = .ok (.invokevirtual 146, 3) := by decide +kernel
theorem dX4_mean_7 : decode cX4_mean 7 = .ok (.istore_n 1, 1) := by decide +kernel
theorem dX4_mean_8 : decode cX4_mean 8 = .ok (.iload_n 1, 1) := by decide +kernel
theorem dX4_mean_9 : decode cX4_mean 9 = .ok (.ifCond .ne 7, 3) := by decide +kernel
theorem dX4_mean_12 : decode cX4_mean 12 = .ok (.dconst 0, 1) := by decide +kernel
theorem dX4_mean_13 : decode cX4_mean 13 = .ok (.goto 14, 3) := by decide +kernel
theorem dX4_mean_16 : decode cX4_mean 16 = .ok (.aload_n 0, 1) := by decide +kernel
theorem dX4_mean_17 : decode cX4_mean 17 = .ok (.getfield 10, 3) := by decide +kernel
theorem dX4_mean_20 : decode cX4_mean 20 = .ok (.invokevirtual 210, 3) := by decide +kernel
theorem dX4_mean_23 : decode cX4_mean 23 = .ok (.i2d, 1) := by decide +kernel
theorem dX4_mean_24 : decode cX4_mean 24 = .ok (.iload_n 1, 1) := by decide +kernel
theorem dX4_mean_25 : decode cX4_mean 25 = .ok (.i2d, 1) := by decide +kernel
theorem dX4_mean_26 : decode cX4_mean 26 = .ok (.ddiv, 1) := by decide +kernel
theorem dX4_mean_27 : decode cX4_mean 27 = .ok (.dreturn, 1) := by decide +kernel
set_option maxRecDepth 20000 in
theorem ggX4_digest_X4_number : GoodIn wsX4_digest wsX4_number := goodIn_r _ [9, 10, 11, 12, 3, 13, 14, 15, 16, 17, 18, 19, 20, 21, 22, 49, 50, 51, 52, 53, 54, 55, 56, 57, 58, 59, 66] (by decide +kernel) (by decide +kernel)
set_option maxRecDepth 20000 in
theorem gX4_digest_X4_number : GoodIn wsX4_digest (wsV RX4 194 RX4 yX4_number wsX4_number) := goodIn_app (goodIn_of _ (by decide +kernel)) ggX4_digest_X4_number
set_option maxRecDepth 20000 in
theorem ggX4_digest_X2_digestOnto : GoodIn wsX4_digest wsX2_digestOnto := goodIn_r _ [26, 22, 27, 66] (by decide +kernel) (by decide +kernel)
set_option maxRecDepth 20000 in
theorem gX4_digest_X2_digestOnto : GoodIn wsX4_digest (wsV RX4 217 RX2 yX2_digestOnto wsX2_digestOnto) := goodIn_app (goodIn_of _ (by decide +kernel)) ggX4_digest_X2_digestOnto
set_option maxRecDepth 20000 in
theorem ggX4_digest_X0_digestOnto : GoodIn wsX4_digest wsX0_digestOnto := goodIn_r _ [32, 33, 34, 35, 36, 31, 37, 38, 39, 40, 41, 42, 43, 44, 18, 19, 20, 21, 22, 45, 46, 47, 48, 60, 61, 62, 63, 64, 65, 66] (by decide +kernel) (by decide +kernel)
set_option maxRecDepth 20000 in
theorem gX4_digest_X0_digestOnto : GoodIn wsX4_digest (wsV RX4 221 RX0 yX0_digestOnto wsX0_digestOnto) := goodIn_app (goodIn_of _ (by decide +kernel)) ggX4_digest_X0_digestOnto
theorem dX4_digest_0 : decode cX4_digest 0 = .ok (.ldc2_w 213, 3) := by decide +kernel
theorem dX4_digest_3 : decode cX4_digest 3 = .ok (.lstore_n 1, 1) := by decide +kernel
theorem dX4_digest_4 : decode cX4_digest 4 = .ok (.iconst 0, 1) := by decide +kernel
theorem dX4_digest_5 : decode cX4_digest 5 = .ok (.istore_n 3, 1) := by decide +kernel
theorem dX4_digest_6 : decode cX4_digest 6 = .ok (.iload_n 3, 1) := by decide +kernel
theorem dX4_digest_7 : decode cX4_digest 7 = .ok (.bipush 8, 2) := by decide +kernel
theorem dX4_digest_9 : decode cX4_digest 9 = .ok (.if_icmp .ge 22, 3) := by decide +kernel
theorem dX4_digest_12 : decode cX4_digest 12 = .ok (.lload_n 1, 1) := by decide +kernel
theorem dX4_digest_13 : decode cX4_digest 13 = .ok (.ldc2_w 215, 3) := by decide +kernel
theorem dX4_digest_16 : decode cX4_digest 16 = .ok (.lmul, 1) := by decide +kernel
theorem dX4_digest_17 : decode cX4_digest 17 = .ok (.aload_n 0, 1) := by decide +kernel
theorem dX4_digest_18 : decode cX4_digest 18 = .ok (.iload_n 3, 1) := by decide +kernel
theorem dX4_digest_19 : decode cX4_digest 19 = .ok (.invokevirtual 194, 3) := by decide +kernel
theorem dX4_digest_22 : decode cX4_digest 22 = .ok (.i2l, 1) := by decide +kernel
theorem dX4_digest_23 : decode cX4_digest 23 = .ok (.ladd, 1) := by decide +kernel
theorem dX4_digest_24 : decode cX4_digest 24 = .ok (.lstore_n 1, 1) := by decide +kernel
theorem dX4_digest_25 : decode cX4_digest 25 = .ok (.iinc 3 1, 3) := by decide +kernel
theorem dX4_digest_28 : decode cX4_digest 28 = .ok (.goto (-22), 3) := by decide +kernel
theorem dX4_digest_31 : decode cX4_digest 31 = .ok (.aload_n 0, 1) := by decide +kernel
theorem dX4_digest_32 : decode cX4_digest 32 = .ok (.getfield 10, 3) := by decide +kernel
theorem dX4_digest_35 : decode cX4_digest 35 = .ok (.lload_n 1, 1) := by decide +kernel
theorem dX4_digest_36 : decode cX4_digest 36 = .ok (.invokevirtual 217, 3) := by decide +kernel
theorem dX4_digest_39 : decode cX4_digest 39 = .ok (.lstore_n 1, 1) := by decide +kernel
theorem dX4_digest_40 : decode cX4_digest 40 = .ok (.iconst 0, 1) := by decide +kernel
theorem dX4_digest_41 : decode cX4_digest 41 = .ok (.istore_n 3, 1) := by decide +kernel
theorem dX4_digest_42 : decode cX4_digest 42 = .ok (.iload_n 3, 1) := by decide +kernel
theorem dX4_digest_43 : decode cX4_digest 43 = .ok (.aload_n 0, 1) := by decide +kernel
theorem dX4_digest_44 : decode cX4_digest 44 = .ok (.getfield 18, 3) := by decide +kernel
theorem dX4_digest_47 : decode cX4_digest 47 = .ok (.arraylength, 1) := by decide +kernel
theorem dX4_digest_48 : decode cX4_digest 48 = .ok (.if_icmp .ge 32, 3) := by decide +kernel
theorem dX4_digest_51 : decode cX4_digest 51 = .ok (.aload_n 0, 1) := by decide +kernel
theorem dX4_digest_52 : decode cX4_digest 52 = .ok (.getfield 18, 3) := by decide +kernel
theorem dX4_digest_55 : decode cX4_digest 55 = .ok (.iload_n 3, 1) := by decide +kernel
theorem dX4_digest_56 : decode cX4_digest 56 = .ok (.aaload, 1) := by decide +kernel
theorem dX4_digest_57 : decode cX4_digest 57 = .ok (.astore 4, 2) := by decide +kernel
theorem dX4_digest_59 : decode cX4_digest 59 = .ok (.aload 4, 2) := by decide +kernel
theorem dX4_digest_61 : decode cX4_digest 61 = .ok (.ifnull 13, 3) := by decide +kernel
theorem dX4_digest_64 : decode cX4_digest 64 = .ok (.aload 4, 2) := by decide +kernel
theorem dX4_digest_66 : decode cX4_digest 66 = .ok (.getfield 104, 3) := by decide +kernel
theorem dX4_digest_69 : decode cX4_digest 69 = .ok (.lload_n 1, 1) := by decide +kernel
theorem dX4_digest_70 : decode cX4_digest 70 = .ok (.invokevirtual 217, 3) := by decide +kernel
theorem dX4_digest_73 : decode cX4_digest 73 = .ok (.lstore_n 1, 1) := by decide +kernel
theorem dX4_digest_74 : decode cX4_digest 74 = .ok (.iinc 3 1, 3) := by decide +kernel
theorem dX4_digest_77 : decode cX4_digest 77 = .ok (.goto (-35), 3) := by decide +kernel
theorem dX4_digest_80 : decode cX4_digest 80 = .ok (.iconst 0, 1) := by decide +kernel
theorem dX4_digest_81 : decode cX4_digest 81 = .ok (.istore_n 3, 1) := by decide +kernel
theorem dX4_digest_82 : decode cX4_digest 82 = .ok (.iload_n 3, 1) := by decide +kernel
theorem dX4_digest_83 : decode cX4_digest 83 = .ok (.aload_n 0, 1) := by decide +kernel
theorem dX4_digest_84 : decode cX4_digest 84 = .ok (.getfield 18, 3) := by decide +kernel
theorem dX4_digest_87 : decode cX4_digest 87 = .ok (.arraylength, 1) := by decide +kernel
theorem dX4_digest_88 : decode cX4_digest 88 = .ok (.if_icmp .ge 29, 3) := by decide +kernel
theorem dX4_digest_91 : decode cX4_digest 91 = .ok (.aload_n 0, 1) := by decide +kernel
theorem dX4_digest_92 : decode cX4_digest 92 = .ok (.getfield 18, 3) := by decide +kernel
theorem dX4_digest_95 : decode cX4_digest 95 = .ok (.iload_n 3, 1) := by decide +kernel
theorem dX4_digest_96 : decode cX4_digest 96 = .ok (.aaload, 1) := by decide +kernel
theorem dX4_digest_97 : decode cX4_digest 97 = .ok (.astore 4, 2) := by decide +kernel
theorem dX4_digest_99 : decode cX4_digest 99 = .ok (.aload 4, 2) := by decide +kernel
theorem dX4_digest_101 : decode cX4_digest 101 = .ok (.ifnull 10, 3) := by decide +kernel
theorem dX4_digest_104 : decode cX4_digest 104 = .ok (.aload 4, 2) := by decide +kernel
theorem dX4_digest_106 : decode cX4_digest 106 = .ok (.lload_n 1, 1) := by decide +kernel
theorem dX4_digest_107 : decode cX4_digest 107 = .ok (.invokevirtual 221, 3) := by decide +kernel
theorem dX4_digest_110 : decode cX4_digest 110 = .ok (.lstore_n 1, 1) := by decide +kernel
theorem dX4_digest_111 : decode cX4_digest 111 = .ok (.iinc 3 1, 3) := by decide +kernel
theorem dX4_digest_114 : decode cX4_digest 114 = .ok (.goto (-32), 3) := by decide +kernel
theorem dX4_digest_117 : decode cX4_digest 117 = .ok (.lload_n 1, 1) := by decide +kernel
theorem dX4_digest_118 : decode cX4_digest 118 = .ok (.lreturn, 1) := by decide +kernel
theorem dX4_needSign_0 : decode cX4_needSign 0 = .ok (.iload_n 0, 1) := by decide +kernel
theorem dX4_needSign_1 : decode cX4_needSign 1 = .ok (.ifCond .lt 9, 3) := by decide +kernel
theorem dX4_needSign_4 : decode cX4_needSign 4 = .ok (.iload_n 0, 1) := by decide +kernel
theorem dX4_needSign_5 : decode cX4_needSign 5 = .ok (.bipush 29, 2) := by decide +kernel
theorem dX4_needSign_7 : decode cX4_needSign 7 = .ok (.if_icmp .lt 13, 3) := by decide +kernel
theorem dX4_needSign_10 : decode cX4_needSign 10 = .ok (.new 179, 3) := by decide +kernel
theorem dX4_needSign_13 : decode cX4_needSign 13 = .ok (.dup, 1) := by decide +kernel
theorem dX4_needSign_14 : decode cX4_needSign 14 = .ok (.ldc 222, 2) := by decide +kernel
theorem dX4_needSign_16 : decode cX4_needSign 16 = .ok (.invokespecial 183, 3) := by decide +kernel
theorem dX4_needSign_19 : decode cX4_needSign 19 = .ok (.athrow, 1) := by decide +kernel
theorem dX4_needSign_20 : decode cX4_needSign 20 = .ok (.return_, 1) := by decide +kernel
theorem dX4_needMany_0 : decode cX4_needMany 0 = .ok (.iload_n 0, 1) := by decide +kernel
theorem dX4_needMany_1 : decode cX4_needMany 1 = .ok (.iconst 1, 1) := by decide +kernel
theorem dX4_needMany_2 : decode cX4_needMany 2 = .ok (.if_icmp .lt 10, 3) := by decide +kernel
theorem dX4_needMany_5 : decode cX4_needMany 5 = .ok (.iload_n 0, 1) := by decide +kernel
theorem dX4_needMany_6 : decode cX4_needMany 6 = .ok (.sipush 200, 3) := by decide +kernel
theorem dX4_needMany_9 : decode cX4_needMany 9 = .ok (.if_icmp .le 13, 3) := by decide +kernel
theorem dX4_needMany_12 : decode cX4_needMany 12 = .ok (.new 71, 3) := by decide +kernel
theorem dX4_needMany_15 : decode cX4_needMany 15 = .ok (.dup, 1) := by decide +kernel
theorem dX4_needMany_16 : decode cX4_needMany 16 = .ok (.ldc 224, 2) := by decide +kernel
theorem dX4_needMany_18 : decode cX4_needMany 18 = .ok (.invokespecial 75, 3) := by decide +kernel
theorem dX4_needMany_21 : decode cX4_needMany 21 = .ok (.athrow, 1) := by decide +kernel
theorem dX4_needMany_22 : decode cX4_needMany 22 = .ok (.return_, 1) := by decide +kernel
theorem dX4_needPrinter_0 : decode cX4_needPrinter 0 = .ok (.iload_n 1, 1) := by decide +kernel
theorem dX4_needPrinter_1 : decode cX4_needPrinter 1 = .ok (.ifCond .lt 12, 3) := by decide +kernel
theorem dX4_needPrinter_4 : decode cX4_needPrinter 4 = .ok (.iload_n 1, 1) := by decide +kernel
theorem dX4_needPrinter_5 : decode cX4_needPrinter 5 = .ok (.aload_n 0, 1) := by decide +kernel
theorem dX4_needPrinter_6 : decode cX4_needPrinter 6 = .ok (.getfield 18, 3) := by decide +kernel
theorem dX4_needPrinter_9 : decode cX4_needPrinter 9 = .ok (.arraylength, 1) := by decide +kernel
theorem dX4_needPrinter_10 : decode cX4_needPrinter 10 = .ok (.if_icmp .lt 13, 3) := by decide +kernel
theorem dX4_needPrinter_13 : decode cX4_needPrinter 13 = .ok (.new 179, 3) := by decide +kernel
theorem dX4_needPrinter_16 : decode cX4_needPrinter 16 = .ok (.dup, 1) := by decide +kernel
theorem dX4_needPrinter_17 : decode cX4_needPrinter 17 = .ok (.ldc 226, 2) := by decide +kernel
theorem dX4_needPrinter_19 : decode cX4_needPrinter 19 = .ok (.invokespecial 183, 3) := by decide +kernel
theorem dX4_needPrinter_22 : decode cX4_needPrinter 22 = .ok (.athrow, 1) := by decide +kernel
theorem dX4_needPrinter_23 : decode cX4_needPrinter 23 = .ok (.aload_n 0, 1) := by decide +kernel
theorem dX4_needPrinter_24 : decode cX4_needPrinter 24 = .ok (.getfield 18, 3) := by decide +kernel
theorem dX4_needPrinter_27 : decode cX4_needPrinter 27 = .ok (.iload_n 1, 1) := by decide +kernel
theorem dX4_needPrinter_28 : decode cX4_needPrinter 28 = .ok (.aaload, 1) := by decide +kernel
theorem dX4_needPrinter_29 : decode cX4_needPrinter 29 = .ok (.astore_n 2, 1) := by decide +kernel
theorem dX4_needPrinter_30 : decode cX4_needPrinter 30 = .ok (.aload_n 2, 1) := by decide +kernel
theorem dX4_needPrinter_31 : decode cX4_needPrinter 31 = .ok (.ifnonnull 13, 3) := by decide +kernel
theorem dX4_needPrinter_34 : decode cX4_needPrinter 34 = .ok (.new 179, 3) := by decide +kernel
theorem dX4_needPrinter_37 : decode cX4_needPrinter 37 = .ok (.dup, 1) := by decide +kernel
theorem dX4_needPrinter_38 : decode cX4_needPrinter 38 = .ok (.ldc 226, 2) := by decide +kernel
theorem dX4_needPrinter_40 : decode cX4_needPrinter 40 = .ok (.invokespecial 183, 3) := by decide +kernel
theorem dX4_needPrinter_43 : decode cX4_needPrinter 43 = .ok (.athrow, 1) := by decide +kernel
theorem dX4_needPrinter_44 : decode cX4_needPrinter 44 = .ok (.aload_n 2, 1) := by decide +kernel
theorem dX4_needPrinter_45 : decode cX4_needPrinter 45 = .ok (.areturn, 1) := by decide +kernel
set_option maxRecDepth 20000 in
theorem ggX4_needWord_X3_spell : GoodIn wsX4_needWord wsX3_spell := goodIn_r _ [8, 9, 10, 11, 23, 24] (by decide +kernel) (by decide +kernel)
set_option maxRecDepth 20000 in
theorem gX4_needWord_X3_spell : GoodIn wsX4_needWord (wsV RX4 228 RX3 yX3_spell wsX3_spell) := goodIn_app (goodIn_of _ (by decide +kernel)) ggX4_needWord_X3_spell
theorem dX4_needWord_0 : decode cX4_needWord 0 = .ok (.aload_n 0, 1) := by decide +kernel
theorem dX4_needWord_1 : decode cX4_needWord 1 = .ok (.getfield 29, 3) := by decide +kernel
theorem dX4_needWord_4 : decode cX4_needWord 4 = .ok (.iload_n 1, 1) := by decide +kernel
theorem dX4_needWord_5 : decode cX4_needWord 5 = .ok (.invokevirtual 228, 3) := by decide +kernel
theorem dX4_needWord_8 : decode cX4_needWord 8 = .ok (.ifCond .ne 13, 3) := by decide +kernel
theorem dX4_needWord_11 : decode cX4_needWord 11 = .ok (.new 71, 3) := by decide +kernel
theorem dX4_needWord_14 : decode cX4_needWord 14 = .ok (.dup, 1) := by decide +kernel
theorem dX4_needWord_15 : decode cX4_needWord 15 = .ok (.ldc 231, 2) := by decide +kernel
theorem dX4_needWord_17 : decode cX4_needWord 17 = .ok (.invokespecial 75, 3) := by decide +kernel
theorem dX4_needWord_20 : decode cX4_needWord 20 = .ok (.athrow, 1) := by decide +kernel
theorem dX4_needWord_21 : decode cX4_needWord 21 = .ok (.aload_n 0, 1) := by decide +kernel
theorem dX4_needWord_22 : decode cX4_needWord 22 = .ok (.getfield 29, 3) := by decide +kernel
theorem dX4_needWord_25 : decode cX4_needWord 25 = .ok (.areturn, 1) := by decide +kernel
theorem dX4_isLigature_0 : decode cX4_isLigature 0 = .ok (.iload_n 0, 1) := by decide +kernel
theorem dX4_isLigature_1 : decode cX4_isLigature 1 = .ok (.bipush 26, 2) := by decide +kernel
theorem dX4_isLigature_3 : decode cX4_isLigature 3 = .ok (.if_icmp .lt 7, 3) := by decide +kernel
theorem dX4_isLigature_6 : decode cX4_isLigature 6 = .ok (.iconst 1, 1) := by decide +kernel
theorem dX4_isLigature_7 : decode cX4_isLigature 7 = .ok (.goto 4, 3) := by decide +kernel
theorem dX4_isLigature_10 : decode cX4_isLigature 10 = .ok (.iconst 0, 1) := by decide +kernel
theorem dX4_isLigature_11 : decode cX4_isLigature 11 = .ok (.ireturn, 1) := by decide +kernel
set_option maxRecDepth 20000 in
theorem ggX4_number_X2_inAll : GoodIn wsX4_number wsX2_inAll := goodIn_r _ [13, 14, 26] (by decide +kernel) (by decide +kernel)
set_option maxRecDepth 20000 in
theorem gX4_number_X2_inAll : GoodIn wsX4_number (wsV RX4 146 RX2 yX2_inAll wsX2_inAll) := goodIn_app (goodIn_of _ (by decide +kernel)) ggX4_number_X2_inAll
theorem dX4_number_0 : decode cX4_number 0 = .ok (.iload_n 1, 1) := by decide +kernel
theorem dX4_number_1 : decode cX4_number 1 = .ok (.tableswitch 90 0 7 #[47, 52, 57, 62, 70, 75, 80, 85], 47) := by decide +kernel
theorem dX4_number_48 : decode cX4_number 48 = .ok (.aload_n 0, 1) := by decide +kernel
theorem dX4_number_49 : decode cX4_number 49 = .ok (.getfield 173, 3) := by decide +kernel
theorem dX4_number_52 : decode cX4_number 52 = .ok (.ireturn, 1) := by decide +kernel
theorem dX4_number_53 : decode cX4_number 53 = .ok (.aload_n 0, 1) := by decide +kernel
theorem dX4_number_54 : decode cX4_number 54 = .ok (.getfield 22, 3) := by decide +kernel
theorem dX4_number_57 : decode cX4_number 57 = .ok (.ireturn, 1) := by decide +kernel
theorem dX4_number_58 : decode cX4_number 58 = .ok (.aload_n 0, 1) := by decide +kernel
theorem dX4_number_59 : decode cX4_number 59 = .ok (.getfield 128, 3) := by decide +kernel
theorem dX4_number_62 : decode cX4_number 62 = .ok (.ireturn, 1) := by decide +kernel
theorem dX4_number_63 : decode cX4_number 63 = .ok (.aload_n 0, 1) := by decide +kernel
theorem dX4_number_64 : decode cX4_number 64 = .ok (.getfield 10, 3) := by decide +kernel
theorem dX4_number_67 : decode cX4_number 67 = .ok (.invokevirtual 146, 3) := by decide +kernel
theorem dX4_number_70 : decode cX4_number 70 = .ok (.ireturn, 1) := by decide +kernel
theorem dX4_number_71 : decode cX4_number 71 = .ok (.aload_n 0, 1) := by decide +kernel
theorem dX4_number_72 : decode cX4_number 72 = .ok (.getfield 91, 3) := by decide +kernel
theorem dX4_number_75 : decode cX4_number 75 = .ok (.ireturn, 1) := by decide +kernel
theorem dX4_number_76 : decode cX4_number 76 = .ok (.aload_n 0, 1) := by decide +kernel
theorem dX4_number_77 : decode cX4_number 77 = .ok (.getfield 68, 3) := by decide +kernel
theorem dX4_number_80 : decode cX4_number 80 = .ok (.ireturn, 1) := by decide +kernel
theorem dX4_number_81 : decode cX4_number 81 = .ok (.aload_n 0, 1) := by decide +kernel
theorem dX4_number_82 : decode cX4_number 82 = .ok (.getfield 168, 3) := by decide +kernel
theorem dX4_number_85 : decode cX4_number 85 = .ok (.ireturn, 1) := by decide +kernel
theorem dX4_number_86 : decode cX4_number 86 = .ok (.aload_n 0, 1) := by decide +kernel
theorem dX4_number_87 : decode cX4_number 87 = .ok (.getfield 84, 3) := by decide +kernel
theorem dX4_number_90 : decode cX4_number 90 = .ok (.ireturn, 1) := by decide +kernel
theorem dX4_number_91 : decode cX4_number 91 = .ok (.iconst 0, 1) := by decide +kernel
theorem dX4_number_92 : decode cX4_number 92 = .ok (.ireturn, 1) := by decide +kernel
theorem dX5_init_0 : decode cX5_init 0 = .ok (.aload_n 0, 1) := by decide +kernel
theorem dX5_init_1 : decode cX5_init 1 = .ok (.invokespecial 1, 3) := by decide +kernel
theorem dX5_init_4 : decode cX5_init 4 = .ok (.aload_n 0, 1) := by decide +kernel
theorem dX5_init_5 : decode cX5_init 5 = .ok (.sipush 500, 3) := by decide +kernel
theorem dX5_init_8 : decode cX5_init 8 = .ok (.putfield 7, 3) := by decide +kernel
theorem dX5_init_11 : decode cX5_init 11 = .ok (.aload_n 0, 1) := by decide +kernel
theorem dX5_init_12 : decode cX5_init 12 = .ok (.sipush 3770, 3) := by decide +kernel
theorem dX5_init_15 : decode cX5_init 15 = .ok (.newarray .int, 2) := by decide +kernel
theorem dX5_init_17 : decode cX5_init 17 = .ok (.putfield 13, 3) := by decide +kernel
theorem dX5_init_20 : decode cX5_init 20 = .ok (.aload_n 0, 1) := by decide +kernel
theorem dX5_init_21 : decode cX5_init 21 = .ok (.bipush 6, 2) := by decide +kernel
theorem dX5_init_23 : decode cX5_init 23 = .ok (.newarray .int, 2) := by decide +kernel
theorem dX5_init_25 : decode cX5_init 25 = .ok (.putfield 17, 3) := by decide +kernel
theorem dX5_init_28 : decode cX5_init 28 = .ok (.aload_n 0, 1) := by decide +kernel
theorem dX5_init_29 : decode cX5_init 29 = .ok (.bipush 6, 2) := by decide +kernel
theorem dX5_init_31 : decode cX5_init 31 = .ok (.newarray .int, 2) := by decide +kernel
theorem dX5_init_33 : decode cX5_init 33 = .ok (.putfield 20, 3) := by decide +kernel
theorem dX5_init_36 : decode cX5_init 36 = .ok (.aload_n 0, 1) := by decide +kernel
theorem dX5_init_37 : decode cX5_init 37 = .ok (.bipush 6, 2) := by decide +kernel
theorem dX5_init_39 : decode cX5_init 39 = .ok (.newarray .int, 2) := by decide +kernel
theorem dX5_init_41 : decode cX5_init 41 = .ok (.putfield 23, 3) := by decide +kernel
theorem dX5_init_44 : decode cX5_init 44 = .ok (.aload_n 0, 1) := by decide +kernel
theorem dX5_init_45 : decode cX5_init 45 = .ok (.bipush 6, 2) := by decide +kernel
theorem dX5_init_47 : decode cX5_init 47 = .ok (.newarray .int, 2) := by decide +kernel
theorem dX5_init_49 : decode cX5_init 49 = .ok (.putfield 26, 3) := by decide +kernel
theorem dX5_init_52 : decode cX5_init 52 = .ok (.aload_n 0, 1) := by decide +kernel
theorem dX5_init_53 : decode cX5_init 53 = .ok (.bipush 6, 2) := by decide +kernel
theorem dX5_init_55 : decode cX5_init 55 = .ok (.newarray .int, 2) := by decide +kernel
theorem dX5_init_57 : decode cX5_init 57 = .ok (.putfield 29, 3) := by decide +kernel
theorem dX5_init_60 : decode cX5_init 60 = .ok (.aload_n 0, 1) := by decide +kernel
theorem dX5_init_61 : decode cX5_init 61 = .ok (.bipush 29, 2) := by decide +kernel
theorem dX5_init_63 : decode cX5_init 63 = .ok (.newarray .int, 2) := by decide +kernel
theorem dX5_init_65 : decode cX5_init 65 = .ok (.putfield 32, 3) := by decide +kernel
theorem dX5_init_68 : decode cX5_init 68 = .ok (.aload_n 0, 1) := by decide +kernel
theorem dX5_init_69 : decode cX5_init 69 = .ok (.bipush 29, 2) := by decide +kernel
theorem dX5_init_71 : decode cX5_init 71 = .ok (.newarray .int, 2) := by decide +kernel
theorem dX5_init_73 : decode cX5_init 73 = .ok (.putfield 35, 3) := by decide +kernel
theorem dX5_init_76 : decode cX5_init 76 = .ok (.return_, 1) := by decide +kernel
theorem dX5_thrown_0 : decode cX5_thrown 0 = .ok (.aload_n 0, 1) := by decide +kernel
theorem dX5_thrown_1 : decode cX5_thrown 1 = .ok (.getfield 38, 3) := by decide +kernel
theorem dX5_thrown_4 : decode cX5_thrown 4 = .ok (.ireturn, 1) := by decide +kernel
theorem dX5_no_0 : decode cX5_no 0 = .ok (.aload_n 0, 1) := by decide +kernel
theorem dX5_no_1 : decode cX5_no 1 = .ok (.iload_n 1, 1) := by decide +kernel
theorem dX5_no_2 : decode cX5_no 2 = .ok (.putfield 38, 3) := by decide +kernel
theorem dX5_no_5 : decode cX5_no 5 = .ok (.iconst 0, 1) := by decide +kernel
theorem dX5_no_6 : decode cX5_no 6 = .ok (.ireturn, 1) := by decide +kernel
theorem dX5_isIn_0 : decode cX5_isIn 0 = .ok (.iload_n 0, 1) := by decide +kernel
theorem dX5_isIn_1 : decode cX5_isIn 1 = .ok (.iload_n 1, 1) := by decide +kernel
theorem dX5_isIn_2 : decode cX5_isIn 2 = .ok (.if_icmp .lt 12, 3) := by decide +kernel
theorem dX5_isIn_5 : decode cX5_isIn 5 = .ok (.iload_n 0, 1) := by decide +kernel
theorem dX5_isIn_6 : decode cX5_isIn 6 = .ok (.iload_n 2, 1) := by decide +kernel
theorem dX5_isIn_7 : decode cX5_isIn 7 = .ok (.if_icmp .gt 7, 3) := by decide +kernel
theorem dX5_isIn_10 : decode cX5_isIn 10 = .ok (.iconst 1, 1) := by decide +kernel
theorem dX5_isIn_11 : decode cX5_isIn 11 = .ok (.goto 4, 3) := by decide +kernel
theorem dX5_isIn_14 : decode cX5_isIn 14 = .ok (.iconst 0, 1) := by decide +kernel
theorem dX5_isIn_15 : decode cX5_isIn 15 = .ok (.ireturn, 1) := by decide +kernel
set_option maxRecDepth 20000 in
theorem ggX5_isPrinter_X5_isIn : GoodIn wsX5_isPrinter wsX5_isIn := goodIn_r _ [5] (by decide +kernel) (by decide +kernel)
set_option maxRecDepth 20000 in
theorem gX5_isPrinter_X5_isIn : GoodIn wsX5_isPrinter (va_wsS RX5 44 yX5_isIn wsX5_isIn) := goodIn_app (goodIn_of _ (by decide +kernel)) ggX5_isPrinter_X5_isIn
theorem dX5_isPrinter_0 : decode cX5_isPrinter 0 = .ok (.iload_n 1, 1) := by decide +kernel
theorem dX5_isPrinter_1 : decode cX5_isPrinter 1 = .ok (.iconst 0, 1) := by decide +kernel
theorem dX5_isPrinter_2 : decode cX5_isPrinter 2 = .ok (.aload_n 0, 1) := by decide +kernel
theorem dX5_isPrinter_3 : decode cX5_isPrinter 3 = .ok (.getfield 41, 3) := by decide +kernel
theorem dX5_isPrinter_6 : decode cX5_isPrinter 6 = .ok (.iconst 1, 1) := by decide +kernel
theorem dX5_isPrinter_7 : decode cX5_isPrinter 7 = .ok (.isub, 1) := by decide +kernel
theorem dX5_isPrinter_8 : decode cX5_isPrinter 8 = .ok (.invokestatic 44, 3) := by decide +kernel
theorem dX5_isPrinter_11 : decode cX5_isPrinter 11 = .ok (.ireturn, 1) := by decide +kernel
set_option maxRecDepth 20000 in
theorem ggX5_isSign_X5_isIn : GoodIn wsX5_isSign wsX5_isIn := goodIn_r _ [4] (by decide +kernel) (by decide +kernel)
set_option maxRecDepth 20000 in
theorem gX5_isSign_X5_isIn : GoodIn wsX5_isSign (va_wsS RX5 44 yX5_isIn wsX5_isIn) := goodIn_app (goodIn_of _ (by decide +kernel)) ggX5_isSign_X5_isIn
theorem dX5_isSign_0 : decode cX5_isSign 0 = .ok (.iload_n 0, 1) := by decide +kernel
theorem dX5_isSign_1 : decode cX5_isSign 1 = .ok (.iconst 0, 1) := by decide +kernel
theorem dX5_isSign_2 : decode cX5_isSign 2 = .ok (.bipush 28, 2) := by decide +kernel
theorem dX5_isSign_4 : decode cX5_isSign 4 = .ok (.invokestatic 44, 3) := by decide +kernel
theorem dX5_isSign_7 : decode cX5_isSign 7 = .ok (.ireturn, 1) := by decide +kernel
theorem dX5_caseOf_0 : decode cX5_caseOf 0 = .ok (.sipush 290, 3) := by decide +kernel
theorem dX5_caseOf_3 : decode cX5_caseOf 3 = .ok (.iconst 1, 1) := by decide +kernel
theorem dX5_caseOf_4 : decode cX5_caseOf 4 = .ok (.iload_n 0, 1) := by decide +kernel
theorem dX5_caseOf_5 : decode cX5_caseOf 5 = .ok (.iadd, 1) := by decide +kernel
theorem dX5_caseOf_6 : decode cX5_caseOf 6 = .ok (.imul, 1) := by decide +kernel
theorem dX5_caseOf_7 : decode cX5_caseOf 7 = .ok (.ireturn, 1) := by decide +kernel
theorem dX5_formOf_0 : decode cX5_formOf 0 = .ok (.sipush 290, 3) := by decide +kernel
theorem dX5_formOf_3 : decode cX5_formOf 3 = .ok (.bipush 7, 2) := by decide +kernel
theorem dX5_formOf_5 : decode cX5_formOf 5 = .ok (.iload_n 0, 1) := by decide +kernel
theorem dX5_formOf_6 : decode cX5_formOf 6 = .ok (.iadd, 1) := by decide +kernel
theorem dX5_formOf_7 : decode cX5_formOf 7 = .ok (.imul, 1) := by decide +kernel
theorem dX5_formOf_8 : decode cX5_formOf 8 = .ok (.ireturn, 1) := by decide +kernel
theorem dX5_many_0 : decode cX5_many 0 = .ok (.iconst 0, 1) := by decide +kernel
theorem dX5_many_1 : decode cX5_many 1 = .ok (.istore_n 3, 1) := by decide +kernel
theorem dX5_many_2 : decode cX5_many 2 = .ok (.iconst 0, 1) := by decide +kernel
theorem dX5_many_3 : decode cX5_many 3 = .ok (.istore 4, 2) := by decide +kernel
theorem dX5_many_5 : decode cX5_many 5 = .ok (.iload 4, 2) := by decide +kernel
theorem dX5_many_7 : decode cX5_many 7 = .ok (.bipush 10, 2) := by decide +kernel
theorem dX5_many_9 : decode cX5_many 9 = .ok (.if_icmp .ge 26, 3) := by decide +kernel
theorem dX5_many_12 : decode cX5_many 12 = .ok (.iload_n 3, 1) := by decide +kernel
theorem dX5_many_13 : decode cX5_many 13 = .ok (.aload_n 0, 1) := by decide +kernel
theorem dX5_many_14 : decode cX5_many 14 = .ok (.getfield 13, 3) := by decide +kernel
theorem dX5_many_17 : decode cX5_many 17 = .ok (.iload_n 1, 1) := by decide +kernel
theorem dX5_many_18 : decode cX5_many 18 = .ok (.bipush 10, 2) := by decide +kernel
theorem dX5_many_20 : decode cX5_many 20 = .ok (.iload_n 2, 1) := by decide +kernel
theorem dX5_many_21 : decode cX5_many 21 = .ok (.imul, 1) := by decide +kernel
theorem dX5_many_22 : decode cX5_many 22 = .ok (.iadd, 1) := by decide +kernel
theorem dX5_many_23 : decode cX5_many 23 = .ok (.iload 4, 2) := by decide +kernel
theorem dX5_many_25 : decode cX5_many 25 = .ok (.iadd, 1) := by decide +kernel
theorem dX5_many_26 : decode cX5_many 26 = .ok (.iaload, 1) := by decide +kernel
theorem dX5_many_27 : decode cX5_many 27 = .ok (.iadd, 1) := by decide +kernel
theorem dX5_many_28 : decode cX5_many 28 = .ok (.istore_n 3, 1) := by decide +kernel
theorem dX5_many_29 : decode cX5_many 29 = .ok (.iinc 4 1, 3) := by decide +kernel
theorem dX5_many_32 : decode cX5_many 32 = .ok (.goto (-27), 3) := by decide +kernel
theorem dX5_many_35 : decode cX5_many 35 = .ok (.iload_n 3, 1) := by decide +kernel
theorem dX5_many_36 : decode cX5_many 36 = .ok (.ireturn, 1) := by decide +kernel
theorem dX5_all_0 : decode cX5_all 0 = .ok (.iconst 0, 1) := by decide +kernel
theorem dX5_all_1 : decode cX5_all 1 = .ok (.istore_n 2, 1) := by decide +kernel
theorem dX5_all_2 : decode cX5_all 2 = .ok (.iconst 0, 1) := by decide +kernel
theorem dX5_all_3 : decode cX5_all 3 = .ok (.istore_n 3, 1) := by decide +kernel
theorem dX5_all_4 : decode cX5_all 4 = .ok (.iload_n 3, 1) := by decide +kernel
theorem dX5_all_5 : decode cX5_all 5 = .ok (.sipush 290, 3) := by decide +kernel
theorem dX5_all_8 : decode cX5_all 8 = .ok (.if_icmp .ge 20, 3) := by decide +kernel
theorem dX5_all_11 : decode cX5_all 11 = .ok (.iload_n 2, 1) := by decide +kernel
theorem dX5_all_12 : decode cX5_all 12 = .ok (.aload_n 0, 1) := by decide +kernel
theorem dX5_all_13 : decode cX5_all 13 = .ok (.getfield 13, 3) := by decide +kernel
theorem dX5_all_16 : decode cX5_all 16 = .ok (.iload_n 1, 1) := by decide +kernel
theorem dX5_all_17 : decode cX5_all 17 = .ok (.iload_n 3, 1) := by decide +kernel
theorem dX5_all_18 : decode cX5_all 18 = .ok (.iadd, 1) := by decide +kernel
theorem dX5_all_19 : decode cX5_all 19 = .ok (.iaload, 1) := by decide +kernel
theorem dX5_all_20 : decode cX5_all 20 = .ok (.iadd, 1) := by decide +kernel
theorem dX5_all_21 : decode cX5_all 21 = .ok (.istore_n 2, 1) := by decide +kernel
theorem dX5_all_22 : decode cX5_all 22 = .ok (.iinc 3 1, 3) := by decide +kernel
theorem dX5_all_25 : decode cX5_all 25 = .ok (.goto (-21), 3) := by decide +kernel
theorem dX5_all_28 : decode cX5_all 28 = .ok (.iload_n 2, 1) := by decide +kernel
theorem dX5_all_29 : decode cX5_all 29 = .ok (.ireturn, 1) := by decide +kernel
theorem dX5_worn_0 : decode cX5_worn 0 = .ok (.iconst 0, 1) := by decide +kernel
theorem dX5_worn_1 : decode cX5_worn 1 = .ok (.istore_n 2, 1) := by decide +kernel
theorem dX5_worn_2 : decode cX5_worn 2 = .ok (.iconst 0, 1) := by decide +kernel
theorem dX5_worn_3 : decode cX5_worn 3 = .ok (.istore_n 3, 1) := by decide +kernel
theorem dX5_worn_4 : decode cX5_worn 4 = .ok (.iload_n 3, 1) := by decide +kernel
theorem dX5_worn_5 : decode cX5_worn 5 = .ok (.sipush 290, 3) := by decide +kernel
theorem dX5_worn_8 : decode cX5_worn 8 = .ok (.if_icmp .ge 25, 3) := by decide +kernel
theorem dX5_worn_11 : decode cX5_worn 11 = .ok (.iload_n 2, 1) := by decide +kernel
theorem dX5_worn_12 : decode cX5_worn 12 = .ok (.aload_n 0, 1) := by decide +kernel
theorem dX5_worn_13 : decode cX5_worn 13 = .ok (.getfield 13, 3) := by decide +kernel
theorem dX5_worn_16 : decode cX5_worn 16 = .ok (.iload_n 1, 1) := by decide +kernel
theorem dX5_worn_17 : decode cX5_worn 17 = .ok (.iload_n 3, 1) := by decide +kernel
theorem dX5_worn_18 : decode cX5_worn 18 = .ok (.iadd, 1) := by decide +kernel
theorem dX5_worn_19 : decode cX5_worn 19 = .ok (.iaload, 1) := by decide +kernel
theorem dX5_worn_20 : decode cX5_worn 20 = .ok (.iload_n 3, 1) := by decide +kernel
theorem dX5_worn_21 : decode cX5_worn 21 = .ok (.bipush 10, 2) := by decide +kernel
theorem dX5_worn_23 : decode cX5_worn 23 = .ok (.irem, 1) := by decide +kernel
theorem dX5_worn_24 : decode cX5_worn 24 = .ok (.imul, 1) := by decide +kernel
theorem dX5_worn_25 : decode cX5_worn 25 = .ok (.iadd, 1) := by decide +kernel
theorem dX5_worn_26 : decode cX5_worn 26 = .ok (.istore_n 2, 1) := by decide +kernel
theorem dX5_worn_27 : decode cX5_worn 27 = .ok (.iinc 3 1, 3) := by decide +kernel
theorem dX5_worn_30 : decode cX5_worn 30 = .ok (.goto (-26), 3) := by decide +kernel
theorem dX5_worn_33 : decode cX5_worn 33 = .ok (.iload_n 2, 1) := by decide +kernel
theorem dX5_worn_34 : decode cX5_worn 34 = .ok (.ireturn, 1) := by decide +kernel
theorem dX5_move_0 : decode cX5_move 0 = .ok (.iload 5, 2) := by decide +kernel
theorem dX5_move_2 : decode cX5_move 2 = .ok (.ifCond .ne 7, 3) := by decide +kernel
theorem dX5_move_5 : decode cX5_move 5 = .ok (.iconst 1, 1) := by decide +kernel
theorem dX5_move_6 : decode cX5_move 6 = .ok (.goto 4, 3) := by decide +kernel
theorem dX5_move_9 : decode cX5_move 9 = .ok (.iconst (-1), 1) := by decide +kernel
theorem dX5_move_10 : decode cX5_move 10 = .ok (.istore 6, 2) := by decide +kernel
theorem dX5_move_12 : decode cX5_move 12 = .ok (.iload 4, 2) := by decide +kernel
theorem dX5_move_14 : decode cX5_move 14 = .ok (.istore 7, 2) := by decide +kernel
theorem dX5_move_16 : decode cX5_move 16 = .ok (.iconst 0, 1) := by decide +kernel
theorem dX5_move_17 : decode cX5_move 17 = .ok (.istore 8, 2) := by decide +kernel
theorem dX5_move_19 : decode cX5_move 19 = .ok (.iload 5, 2) := by decide +kernel
theorem dX5_move_21 : decode cX5_move 21 = .ok (.istore 9, 2) := by decide +kernel
theorem dX5_move_23 : decode cX5_move 23 = .ok (.iload 7, 2) := by decide +kernel
theorem dX5_move_25 : decode cX5_move 25 = .ok (.ifCond .le 89, 3) := by decide +kernel
theorem dX5_move_28 : decode cX5_move 28 = .ok (.iload 7, 2) := by decide +kernel
theorem dX5_move_30 : decode cX5_move 30 = .ok (.aload_n 0, 1) := by decide +kernel
theorem dX5_move_31 : decode cX5_move 31 = .ok (.getfield 13, 3) := by decide +kernel
theorem dX5_move_34 : decode cX5_move 34 = .ok (.iload_n 1, 1) := by decide +kernel
theorem dX5_move_35 : decode cX5_move 35 = .ok (.bipush 10, 2) := by decide +kernel
theorem dX5_move_37 : decode cX5_move 37 = .ok (.iload_n 3, 1) := by decide +kernel
theorem dX5_move_38 : decode cX5_move 38 = .ok (.imul, 1) := by decide +kernel
theorem dX5_move_39 : decode cX5_move 39 = .ok (.iadd, 1) := by decide +kernel
theorem dX5_move_40 : decode cX5_move 40 = .ok (.iload 9, 2) := by decide +kernel
theorem dX5_move_42 : decode cX5_move 42 = .ok (.iadd, 1) := by decide +kernel
theorem dX5_move_43 : decode cX5_move 43 = .ok (.iaload, 1) := by decide +kernel
theorem dX5_move_44 : decode cX5_move 44 = .ok (.invokestatic 48, 3) := by decide +kernel
theorem dX5_move_47 : decode cX5_move 47 = .ok (.istore 10, 2) := by decide +kernel
theorem dX5_move_49 : decode cX5_move 49 = .ok (.aload_n 0, 1) := by decide +kernel
theorem dX5_move_50 : decode cX5_move 50 = .ok (.getfield 13, 3) := by decide +kernel
theorem dX5_move_53 : decode cX5_move 53 = .ok (.iload_n 1, 1) := by decide +kernel
theorem dX5_move_54 : decode cX5_move 54 = .ok (.bipush 10, 2) := by decide +kernel
theorem dX5_move_56 : decode cX5_move 56 = .ok (.iload_n 3, 1) := by decide +kernel
theorem dX5_move_57 : decode cX5_move 57 = .ok (.imul, 1) := by decide +kernel
theorem dX5_move_58 : decode cX5_move 58 = .ok (.iadd, 1) := by decide +kernel
theorem dX5_move_59 : decode cX5_move 59 = .ok (.iload 9, 2) := by decide +kernel
theorem dX5_move_61 : decode cX5_move 61 = .ok (.iadd, 1) := by decide +kernel
theorem dX5_move_62 : decode cX5_move 62 = .ok (.dup2, 1) := by decide +kernel
theorem dX5_move_63 : decode cX5_move 63 = .ok (.iaload, 1) := by decide +kernel
theorem dX5_move_64 : decode cX5_move 64 = .ok (.iload 10, 2) := by decide +kernel
theorem dX5_move_66 : decode cX5_move 66 = .ok (.isub, 1) := by decide +kernel
theorem dX5_move_67 : decode cX5_move 67 = .ok (.iastore, 1) := by decide +kernel
theorem dX5_move_68 : decode cX5_move 68 = .ok (.aload_n 0, 1) := by decide +kernel
theorem dX5_move_69 : decode cX5_move 69 = .ok (.getfield 13, 3) := by decide +kernel
theorem dX5_move_72 : decode cX5_move 72 = .ok (.iload_n 2, 1) := by decide +kernel
theorem dX5_move_73 : decode cX5_move 73 = .ok (.bipush 10, 2) := by decide +kernel
theorem dX5_move_75 : decode cX5_move 75 = .ok (.iload_n 3, 1) := by decide +kernel
theorem dX5_move_76 : decode cX5_move 76 = .ok (.imul, 1) := by decide +kernel
theorem dX5_move_77 : decode cX5_move 77 = .ok (.iadd, 1) := by decide +kernel
theorem dX5_move_78 : decode cX5_move 78 = .ok (.iload 9, 2) := by decide +kernel
theorem dX5_move_80 : decode cX5_move 80 = .ok (.iadd, 1) := by decide +kernel
theorem dX5_move_81 : decode cX5_move 81 = .ok (.dup2, 1) := by decide +kernel
theorem dX5_move_82 : decode cX5_move 82 = .ok (.iaload, 1) := by decide +kernel
theorem dX5_move_83 : decode cX5_move 83 = .ok (.iload 10, 2) := by decide +kernel
theorem dX5_move_85 : decode cX5_move 85 = .ok (.iadd, 1) := by decide +kernel
theorem dX5_move_86 : decode cX5_move 86 = .ok (.iastore, 1) := by decide +kernel
theorem dX5_move_87 : decode cX5_move 87 = .ok (.iload 7, 2) := by decide +kernel
theorem dX5_move_89 : decode cX5_move 89 = .ok (.iload 10, 2) := by decide +kernel
theorem dX5_move_91 : decode cX5_move 91 = .ok (.isub, 1) := by decide +kernel
theorem dX5_move_92 : decode cX5_move 92 = .ok (.istore 7, 2) := by decide +kernel
theorem dX5_move_94 : decode cX5_move 94 = .ok (.iload 8, 2) := by decide +kernel
theorem dX5_move_96 : decode cX5_move 96 = .ok (.iload 10, 2) := by decide +kernel
theorem dX5_move_98 : decode cX5_move 98 = .ok (.iload 9, 2) := by decide +kernel
theorem dX5_move_100 : decode cX5_move 100 = .ok (.imul, 1) := by decide +kernel
theorem dX5_move_101 : decode cX5_move 101 = .ok (.iadd, 1) := by decide +kernel
theorem dX5_move_102 : decode cX5_move 102 = .ok (.istore 8, 2) := by decide +kernel
theorem dX5_move_104 : decode cX5_move 104 = .ok (.iload 9, 2) := by decide +kernel
theorem dX5_move_106 : decode cX5_move 106 = .ok (.iload 6, 2) := by decide +kernel
theorem dX5_move_108 : decode cX5_move 108 = .ok (.iadd, 1) := by decide +kernel
theorem dX5_move_109 : decode cX5_move 109 = .ok (.istore 9, 2) := by decide +kernel
theorem dX5_move_111 : decode cX5_move 111 = .ok (.goto (-88), 3) := by decide +kernel
theorem dX5_move_114 : decode cX5_move 114 = .ok (.iload 8, 2) := by decide +kernel
theorem dX5_move_116 : decode cX5_move 116 = .ok (.ireturn, 1) := by decide +kernel
theorem dX5_price_0 : decode cX5_price 0 = .ok (.iload_n 0, 1) := by decide +kernel
theorem dX5_price_1 : decode cX5_price 1 = .ok (.bipush 26, 2) := by decide +kernel
theorem dX5_price_3 : decode cX5_price 3 = .ok (.if_icmp .ge 7, 3) := by decide +kernel
theorem dX5_price_6 : decode cX5_price 6 = .ok (.iconst 2, 1) := by decide +kernel
theorem dX5_price_7 : decode cX5_price 7 = .ok (.goto 4, 3) := by decide +kernel
theorem dX5_price_10 : decode cX5_price 10 = .ok (.iconst 3, 1) := by decide +kernel
theorem dX5_price_11 : decode cX5_price 11 = .ok (.ireturn, 1) := by decide +kernel
set_option maxRecDepth 20000 in
theorem ggX5_cast_X5_isSign : GoodIn wsX5_cast wsX5_isSign := goodIn_r _ [8, 9, 10, 7, 11] (by decide +kernel) (by decide +kernel)
set_option maxRecDepth 20000 in
theorem gX5_cast_X5_isSign : GoodIn wsX5_cast (va_wsS RX5 54 yX5_isSign wsX5_isSign) := goodIn_app (goodIn_of _ (by decide +kernel)) ggX5_cast_X5_isSign
set_option maxRecDepth 20000 in
theorem ggX5_cast_X5_no : GoodIn wsX5_cast wsX5_no := goodIn_r _ [15, 1, 23, 24, 25, 26, 27, 28, 29, 30, 31, 32, 33, 34, 35, 36, 37, 38, 39] (by decide +kernel) (by decide +kernel)
end
section
set_option maxRecDepth 20000 in
theorem gX5_cast_X5_no : GoodIn wsX5_cast (wsV RX5 58 RX5 yX5_no wsX5_no) := goodIn_app (goodIn_of _ (by decide +kernel)) ggX5_cast_X5_no
set_option maxRecDepth 20000 in
theorem ggX5_cast_X5_isIn : GoodIn wsX5_cast wsX5_isIn := goodIn_r _ [11] (by decide +kernel) (by decide +kernel)
set_option maxRecDepth 20000 in
theorem gX5_cast_X5_isIn : GoodIn wsX5_cast (va_wsS RX5 44 yX5_isIn wsX5_isIn) := goodIn_app (goodIn_of _ (by decide +kernel)) ggX5_cast_X5_isIn
set_option maxRecDepth 20000 in
theorem ggX5_cast_X5_price : GoodIn wsX5_cast wsX5_price := goodIn_r _ [18] (by decide +kernel) (by decide +kernel)
set_option maxRecDepth 20000 in
theorem gX5_cast_X5_price : GoodIn wsX5_cast (va_wsS RX5 62 yX5_price wsX5_price) := goodIn_app (goodIn_of _ (by decide +kernel)) ggX5_cast_X5_price
set_option maxRecDepth 20000 in
theorem ggX5_cast_X5_many : GoodIn wsX5_cast wsX5_many := goodIn_r _ [22, 3, 23, 24, 25, 26, 27, 28, 29, 30, 31, 32, 33, 34, 35, 36, 37, 38, 39] (by decide +kernel) (by decide +kernel)
set_option maxRecDepth 20000 in
theorem gX5_cast_X5_many : GoodIn wsX5_cast (wsV RX5 65 RX5 yX5_many wsX5_many) := goodIn_app (goodIn_of _ (by decide +kernel)) ggX5_cast_X5_many
theorem dX5_cast_0 : decode cX5_cast 0 = .ok (.aload_n 0, 1) := by decide +kernel
theorem dX5_cast_1 : decode cX5_cast 1 = .ok (.iconst 0, 1) := by decide +kernel
theorem dX5_cast_2 : decode cX5_cast 2 = .ok (.putfield 38, 3) := by decide +kernel
theorem dX5_cast_5 : decode cX5_cast 5 = .ok (.iload_n 1, 1) := by decide +kernel
theorem dX5_cast_6 : decode cX5_cast 6 = .ok (.invokestatic 54, 3) := by decide +kernel
theorem dX5_cast_9 : decode cX5_cast 9 = .ok (.ifCond .ne 9, 3) := by decide +kernel
theorem dX5_cast_12 : decode cX5_cast 12 = .ok (.aload_n 0, 1) := by decide +kernel
theorem dX5_cast_13 : decode cX5_cast 13 = .ok (.iconst 1, 1) := by decide +kernel
theorem dX5_cast_14 : decode cX5_cast 14 = .ok (.invokevirtual 58, 3) := by decide +kernel
theorem dX5_cast_17 : decode cX5_cast 17 = .ok (.ireturn, 1) := by decide +kernel
theorem dX5_cast_18 : decode cX5_cast 18 = .ok (.iload_n 2, 1) := by decide +kernel
theorem dX5_cast_19 : decode cX5_cast 19 = .ok (.iconst 1, 1) := by decide +kernel
theorem dX5_cast_20 : decode cX5_cast 20 = .ok (.sipush 200, 3) := by decide +kernel
theorem dX5_cast_23 : decode cX5_cast 23 = .ok (.invokestatic 44, 3) := by decide +kernel
theorem dX5_cast_26 : decode cX5_cast 26 = .ok (.ifCond .ne 9, 3) := by decide +kernel
theorem dX5_cast_29 : decode cX5_cast 29 = .ok (.aload_n 0, 1) := by decide +kernel
theorem dX5_cast_30 : decode cX5_cast 30 = .ok (.iconst 2, 1) := by decide +kernel
theorem dX5_cast_31 : decode cX5_cast 31 = .ok (.invokevirtual 58, 3) := by decide +kernel
theorem dX5_cast_34 : decode cX5_cast 34 = .ok (.ireturn, 1) := by decide +kernel
theorem dX5_cast_35 : decode cX5_cast 35 = .ok (.iload_n 2, 1) := by decide +kernel
theorem dX5_cast_36 : decode cX5_cast 36 = .ok (.iload_n 1, 1) := by decide +kernel
theorem dX5_cast_37 : decode cX5_cast 37 = .ok (.invokestatic 62, 3) := by decide +kernel
theorem dX5_cast_40 : decode cX5_cast 40 = .ok (.imul, 1) := by decide +kernel
theorem dX5_cast_41 : decode cX5_cast 41 = .ok (.aload_n 0, 1) := by decide +kernel
theorem dX5_cast_42 : decode cX5_cast 42 = .ok (.getfield 7, 3) := by decide +kernel
theorem dX5_cast_45 : decode cX5_cast 45 = .ok (.if_icmp .gt 17, 3) := by decide +kernel
theorem dX5_cast_48 : decode cX5_cast 48 = .ok (.aload_n 0, 1) := by decide +kernel
theorem dX5_cast_49 : decode cX5_cast 49 = .ok (.iconst 0, 1) := by decide +kernel
theorem dX5_cast_50 : decode cX5_cast 50 = .ok (.iload_n 1, 1) := by decide +kernel
theorem dX5_cast_51 : decode cX5_cast 51 = .ok (.invokevirtual 65, 3) := by decide +kernel
theorem dX5_cast_54 : decode cX5_cast 54 = .ok (.iload_n 2, 1) := by decide +kernel
theorem dX5_cast_55 : decode cX5_cast 55 = .ok (.iadd, 1) := by decide +kernel
theorem dX5_cast_56 : decode cX5_cast 56 = .ok (.sipush 999, 3) := by decide +kernel
theorem dX5_cast_59 : decode cX5_cast 59 = .ok (.if_icmp .le 9, 3) := by decide +kernel
theorem dX5_cast_62 : decode cX5_cast 62 = .ok (.aload_n 0, 1) := by decide +kernel
theorem dX5_cast_63 : decode cX5_cast 63 = .ok (.iconst 3, 1) := by decide +kernel
theorem dX5_cast_64 : decode cX5_cast 64 = .ok (.invokevirtual 58, 3) := by decide +kernel
theorem dX5_cast_67 : decode cX5_cast 67 = .ok (.ireturn, 1) := by decide +kernel
theorem dX5_cast_68 : decode cX5_cast 68 = .ok (.aload_n 0, 1) := by decide +kernel
theorem dX5_cast_69 : decode cX5_cast 69 = .ok (.dup, 1) := by decide +kernel
theorem dX5_cast_70 : decode cX5_cast 70 = .ok (.getfield 7, 3) := by decide +kernel
theorem dX5_cast_73 : decode cX5_cast 73 = .ok (.iload_n 2, 1) := by decide +kernel
theorem dX5_cast_74 : decode cX5_cast 74 = .ok (.iload_n 1, 1) := by decide +kernel
theorem dX5_cast_75 : decode cX5_cast 75 = .ok (.invokestatic 62, 3) := by decide +kernel
theorem dX5_cast_78 : decode cX5_cast 78 = .ok (.imul, 1) := by decide +kernel
theorem dX5_cast_79 : decode cX5_cast 79 = .ok (.isub, 1) := by decide +kernel
theorem dX5_cast_80 : decode cX5_cast 80 = .ok (.putfield 7, 3) := by decide +kernel
theorem dX5_cast_83 : decode cX5_cast 83 = .ok (.aload_n 0, 1) := by decide +kernel
theorem dX5_cast_84 : decode cX5_cast 84 = .ok (.getfield 13, 3) := by decide +kernel
theorem dX5_cast_87 : decode cX5_cast 87 = .ok (.bipush 10, 2) := by decide +kernel
theorem dX5_cast_89 : decode cX5_cast 89 = .ok (.iload_n 1, 1) := by decide +kernel
theorem dX5_cast_90 : decode cX5_cast 90 = .ok (.imul, 1) := by decide +kernel
theorem dX5_cast_91 : decode cX5_cast 91 = .ok (.dup2, 1) := by decide +kernel
theorem dX5_cast_92 : decode cX5_cast 92 = .ok (.iaload, 1) := by decide +kernel
theorem dX5_cast_93 : decode cX5_cast 93 = .ok (.iload_n 2, 1) := by decide +kernel
theorem dX5_cast_94 : decode cX5_cast 94 = .ok (.iadd, 1) := by decide +kernel
theorem dX5_cast_95 : decode cX5_cast 95 = .ok (.iastore, 1) := by decide +kernel
theorem dX5_cast_96 : decode cX5_cast 96 = .ok (.aload_n 0, 1) := by decide +kernel
theorem dX5_cast_97 : decode cX5_cast 97 = .ok (.dup, 1) := by decide +kernel
theorem dX5_cast_98 : decode cX5_cast 98 = .ok (.getfield 68, 3) := by decide +kernel
theorem dX5_cast_101 : decode cX5_cast 101 = .ok (.iload_n 2, 1) := by decide +kernel
theorem dX5_cast_102 : decode cX5_cast 102 = .ok (.iadd, 1) := by decide +kernel
theorem dX5_cast_103 : decode cX5_cast 103 = .ok (.putfield 68, 3) := by decide +kernel
theorem dX5_cast_106 : decode cX5_cast 106 = .ok (.aload_n 0, 1) := by decide +kernel
theorem dX5_cast_107 : decode cX5_cast 107 = .ok (.getfield 7, 3) := by decide +kernel
theorem dX5_cast_110 : decode cX5_cast 110 = .ok (.ireturn, 1) := by decide +kernel
set_option maxRecDepth 20000 in
theorem ggX5_melt_X5_isIn : GoodIn wsX5_melt wsX5_isIn := goodIn_r _ [8] (by decide +kernel) (by decide +kernel)
set_option maxRecDepth 20000 in
theorem gX5_melt_X5_isIn : GoodIn wsX5_melt (va_wsS RX5 44 yX5_isIn wsX5_isIn) := goodIn_app (goodIn_of _ (by decide +kernel)) ggX5_melt_X5_isIn
set_option maxRecDepth 20000 in
theorem ggX5_melt_X5_no : GoodIn wsX5_melt wsX5_no := goodIn_r _ [12, 1, 16, 17, 18, 19, 20, 21, 22, 23, 24, 25, 26, 27, 28, 29, 30, 31, 32] (by decide +kernel) (by decide +kernel)
set_option maxRecDepth 20000 in
theorem gX5_melt_X5_no : GoodIn wsX5_melt (wsV RX5 58 RX5 yX5_no wsX5_no) := goodIn_app (goodIn_of _ (by decide +kernel)) ggX5_melt_X5_no
set_option maxRecDepth 20000 in
theorem ggX5_melt_X5_price : GoodIn wsX5_melt wsX5_price := goodIn_r _ [15] (by decide +kernel) (by decide +kernel)
set_option maxRecDepth 20000 in
theorem gX5_melt_X5_price : GoodIn wsX5_melt (va_wsS RX5 62 yX5_price wsX5_price) := goodIn_app (goodIn_of _ (by decide +kernel)) ggX5_melt_X5_price
theorem dX5_melt_0 : decode cX5_melt 0 = .ok (.aload_n 0, 1) := by decide +kernel
theorem dX5_melt_1 : decode cX5_melt 1 = .ok (.iconst 0, 1) := by decide +kernel
theorem dX5_melt_2 : decode cX5_melt 2 = .ok (.putfield 38, 3) := by decide +kernel
theorem dX5_melt_5 : decode cX5_melt 5 = .ok (.iload_n 1, 1) := by decide +kernel
theorem dX5_melt_6 : decode cX5_melt 6 = .ok (.iconst 1, 1) := by decide +kernel
theorem dX5_melt_7 : decode cX5_melt 7 = .ok (.bipush 9, 2) := by decide +kernel
theorem dX5_melt_9 : decode cX5_melt 9 = .ok (.invokestatic 44, 3) := by decide +kernel
theorem dX5_melt_12 : decode cX5_melt 12 = .ok (.ifCond .ne 9, 3) := by decide +kernel
theorem dX5_melt_15 : decode cX5_melt 15 = .ok (.aload_n 0, 1) := by decide +kernel
theorem dX5_melt_16 : decode cX5_melt 16 = .ok (.iconst 1, 1) := by decide +kernel
theorem dX5_melt_17 : decode cX5_melt 17 = .ok (.invokevirtual 58, 3) := by decide +kernel
theorem dX5_melt_20 : decode cX5_melt 20 = .ok (.ireturn, 1) := by decide +kernel
theorem dX5_melt_21 : decode cX5_melt 21 = .ok (.iconst 0, 1) := by decide +kernel
theorem dX5_melt_22 : decode cX5_melt 22 = .ok (.istore_n 2, 1) := by decide +kernel
theorem dX5_melt_23 : decode cX5_melt 23 = .ok (.iconst 0, 1) := by decide +kernel
theorem dX5_melt_24 : decode cX5_melt 24 = .ok (.istore_n 3, 1) := by decide +kernel
theorem dX5_melt_25 : decode cX5_melt 25 = .ok (.iconst 0, 1) := by decide +kernel
theorem dX5_melt_26 : decode cX5_melt 26 = .ok (.istore 4, 2) := by decide +kernel
theorem dX5_melt_28 : decode cX5_melt 28 = .ok (.iload 4, 2) := by decide +kernel
theorem dX5_melt_30 : decode cX5_melt 30 = .ok (.sipush 290, 3) := by decide +kernel
theorem dX5_melt_33 : decode cX5_melt 33 = .ok (.if_icmp .ge 52, 3) := by decide +kernel
theorem dX5_melt_36 : decode cX5_melt 36 = .ok (.iload 4, 2) := by decide +kernel
theorem dX5_melt_38 : decode cX5_melt 38 = .ok (.bipush 10, 2) := by decide +kernel
theorem dX5_melt_40 : decode cX5_melt 40 = .ok (.irem, 1) := by decide +kernel
theorem dX5_melt_41 : decode cX5_melt 41 = .ok (.iload_n 1, 1) := by decide +kernel
theorem dX5_melt_42 : decode cX5_melt 42 = .ok (.if_icmp .ge 6, 3) := by decide +kernel
theorem dX5_melt_45 : decode cX5_melt 45 = .ok (.goto 34, 3) := by decide +kernel
theorem dX5_melt_48 : decode cX5_melt 48 = .ok (.iload_n 3, 1) := by decide +kernel
theorem dX5_melt_49 : decode cX5_melt 49 = .ok (.aload_n 0, 1) := by decide +kernel
theorem dX5_melt_50 : decode cX5_melt 50 = .ok (.getfield 13, 3) := by decide +kernel
theorem dX5_melt_53 : decode cX5_melt 53 = .ok (.iload 4, 2) := by decide +kernel
theorem dX5_melt_55 : decode cX5_melt 55 = .ok (.iaload, 1) := by decide +kernel
theorem dX5_melt_56 : decode cX5_melt 56 = .ok (.iadd, 1) := by decide +kernel
theorem dX5_melt_57 : decode cX5_melt 57 = .ok (.istore_n 3, 1) := by decide +kernel
theorem dX5_melt_58 : decode cX5_melt 58 = .ok (.iload_n 2, 1) := by decide +kernel
theorem dX5_melt_59 : decode cX5_melt 59 = .ok (.aload_n 0, 1) := by decide +kernel
theorem dX5_melt_60 : decode cX5_melt 60 = .ok (.getfield 13, 3) := by decide +kernel
theorem dX5_melt_63 : decode cX5_melt 63 = .ok (.iload 4, 2) := by decide +kernel
theorem dX5_melt_65 : decode cX5_melt 65 = .ok (.iaload, 1) := by decide +kernel
theorem dX5_melt_66 : decode cX5_melt 66 = .ok (.iload 4, 2) := by decide +kernel
theorem dX5_melt_68 : decode cX5_melt 68 = .ok (.bipush 10, 2) := by decide +kernel
theorem dX5_melt_70 : decode cX5_melt 70 = .ok (.idiv, 1) := by decide +kernel
theorem dX5_melt_71 : decode cX5_melt 71 = .ok (.invokestatic 62, 3) := by decide +kernel
theorem dX5_melt_74 : decode cX5_melt 74 = .ok (.iconst 1, 1) := by decide +kernel
theorem dX5_melt_75 : decode cX5_melt 75 = .ok (.isub, 1) := by decide +kernel
theorem dX5_melt_76 : decode cX5_melt 76 = .ok (.imul, 1) := by decide +kernel
theorem dX5_melt_77 : decode cX5_melt 77 = .ok (.iadd, 1) := by decide +kernel
theorem dX5_melt_78 : decode cX5_melt 78 = .ok (.istore_n 2, 1) := by decide +kernel
theorem dX5_melt_79 : decode cX5_melt 79 = .ok (.iinc 4 1, 3) := by decide +kernel
theorem dX5_melt_82 : decode cX5_melt 82 = .ok (.goto (-54), 3) := by decide +kernel
theorem dX5_melt_85 : decode cX5_melt 85 = .ok (.aload_n 0, 1) := by decide +kernel
theorem dX5_melt_86 : decode cX5_melt 86 = .ok (.getfield 7, 3) := by decide +kernel
theorem dX5_melt_89 : decode cX5_melt 89 = .ok (.iload_n 2, 1) := by decide +kernel
theorem dX5_melt_90 : decode cX5_melt 90 = .ok (.iadd, 1) := by decide +kernel
theorem dX5_melt_91 : decode cX5_melt 91 = .ok (.sipush 9999, 3) := by decide +kernel
theorem dX5_melt_94 : decode cX5_melt 94 = .ok (.if_icmp .le 9, 3) := by decide +kernel
theorem dX5_melt_97 : decode cX5_melt 97 = .ok (.aload_n 0, 1) := by decide +kernel
theorem dX5_melt_98 : decode cX5_melt 98 = .ok (.iconst 2, 1) := by decide +kernel
theorem dX5_melt_99 : decode cX5_melt 99 = .ok (.invokevirtual 58, 3) := by decide +kernel
theorem dX5_melt_102 : decode cX5_melt 102 = .ok (.ireturn, 1) := by decide +kernel
theorem dX5_melt_103 : decode cX5_melt 103 = .ok (.iconst 0, 1) := by decide +kernel
theorem dX5_melt_104 : decode cX5_melt 104 = .ok (.istore 4, 2) := by decide +kernel
theorem dX5_melt_106 : decode cX5_melt 106 = .ok (.iload 4, 2) := by decide +kernel
theorem dX5_melt_108 : decode cX5_melt 108 = .ok (.sipush 290, 3) := by decide +kernel
theorem dX5_melt_111 : decode cX5_melt 111 = .ok (.if_icmp .ge 26, 3) := by decide +kernel
theorem dX5_melt_114 : decode cX5_melt 114 = .ok (.iload 4, 2) := by decide +kernel
theorem dX5_melt_116 : decode cX5_melt 116 = .ok (.bipush 10, 2) := by decide +kernel
theorem dX5_melt_118 : decode cX5_melt 118 = .ok (.irem, 1) := by decide +kernel
theorem dX5_melt_119 : decode cX5_melt 119 = .ok (.iload_n 1, 1) := by decide +kernel
theorem dX5_melt_120 : decode cX5_melt 120 = .ok (.if_icmp .lt 11, 3) := by decide +kernel
theorem dX5_melt_123 : decode cX5_melt 123 = .ok (.aload_n 0, 1) := by decide +kernel
theorem dX5_melt_124 : decode cX5_melt 124 = .ok (.getfield 13, 3) := by decide +kernel
theorem dX5_melt_127 : decode cX5_melt 127 = .ok (.iload 4, 2) := by decide +kernel
theorem dX5_melt_129 : decode cX5_melt 129 = .ok (.iconst 0, 1) := by decide +kernel
theorem dX5_melt_130 : decode cX5_melt 130 = .ok (.iastore, 1) := by decide +kernel
theorem dX5_melt_131 : decode cX5_melt 131 = .ok (.iinc 4 1, 3) := by decide +kernel
theorem dX5_melt_134 : decode cX5_melt 134 = .ok (.goto (-28), 3) := by decide +kernel
theorem dX5_melt_137 : decode cX5_melt 137 = .ok (.aload_n 0, 1) := by decide +kernel
theorem dX5_melt_138 : decode cX5_melt 138 = .ok (.dup, 1) := by decide +kernel
theorem dX5_melt_139 : decode cX5_melt 139 = .ok (.getfield 7, 3) := by decide +kernel
theorem dX5_melt_142 : decode cX5_melt 142 = .ok (.iload_n 2, 1) := by decide +kernel
theorem dX5_melt_143 : decode cX5_melt 143 = .ok (.iadd, 1) := by decide +kernel
theorem dX5_melt_144 : decode cX5_melt 144 = .ok (.putfield 7, 3) := by decide +kernel
theorem dX5_melt_147 : decode cX5_melt 147 = .ok (.aload_n 0, 1) := by decide +kernel
theorem dX5_melt_148 : decode cX5_melt 148 = .ok (.dup, 1) := by decide +kernel
theorem dX5_melt_149 : decode cX5_melt 149 = .ok (.getfield 71, 3) := by decide +kernel
theorem dX5_melt_152 : decode cX5_melt 152 = .ok (.iload_n 3, 1) := by decide +kernel
theorem dX5_melt_153 : decode cX5_melt 153 = .ok (.iadd, 1) := by decide +kernel
theorem dX5_melt_154 : decode cX5_melt 154 = .ok (.putfield 71, 3) := by decide +kernel
theorem dX5_melt_157 : decode cX5_melt 157 = .ok (.iload_n 3, 1) := by decide +kernel
theorem dX5_melt_158 : decode cX5_melt 158 = .ok (.ireturn, 1) := by decide +kernel
set_option maxRecDepth 20000 in
theorem ggX5_buy_X5_isIn : GoodIn wsX5_buy wsX5_isIn := goodIn_r _ [6] (by decide +kernel) (by decide +kernel)
set_option maxRecDepth 20000 in
theorem gX5_buy_X5_isIn : GoodIn wsX5_buy (va_wsS RX5 44 yX5_isIn wsX5_isIn) := goodIn_app (goodIn_of _ (by decide +kernel)) ggX5_buy_X5_isIn
set_option maxRecDepth 20000 in
theorem ggX5_buy_X5_no : GoodIn wsX5_buy wsX5_no := goodIn_r _ [10, 1, 11, 12, 13, 14, 15, 16, 17, 18, 19, 20, 21, 22, 23, 24, 25, 26, 27] (by decide +kernel) (by decide +kernel)
set_option maxRecDepth 20000 in
theorem gX5_buy_X5_no : GoodIn wsX5_buy (wsV RX5 58 RX5 yX5_no wsX5_no) := goodIn_app (goodIn_of _ (by decide +kernel)) ggX5_buy_X5_no
theorem dX5_buy_0 : decode cX5_buy 0 = .ok (.aload_n 0, 1) := by decide +kernel
theorem dX5_buy_1 : decode cX5_buy 1 = .ok (.iconst 0, 1) := by decide +kernel
theorem dX5_buy_2 : decode cX5_buy 2 = .ok (.putfield 38, 3) := by decide +kernel
theorem dX5_buy_5 : decode cX5_buy 5 = .ok (.iload_n 1, 1) := by decide +kernel
theorem dX5_buy_6 : decode cX5_buy 6 = .ok (.iconst 1, 1) := by decide +kernel
theorem dX5_buy_7 : decode cX5_buy 7 = .ok (.sipush 2000, 3) := by decide +kernel
theorem dX5_buy_10 : decode cX5_buy 10 = .ok (.invokestatic 44, 3) := by decide +kernel
theorem dX5_buy_13 : decode cX5_buy 13 = .ok (.ifCond .ne 9, 3) := by decide +kernel
theorem dX5_buy_16 : decode cX5_buy 16 = .ok (.aload_n 0, 1) := by decide +kernel
theorem dX5_buy_17 : decode cX5_buy 17 = .ok (.iconst 1, 1) := by decide +kernel
theorem dX5_buy_18 : decode cX5_buy 18 = .ok (.invokevirtual 58, 3) := by decide +kernel
theorem dX5_buy_21 : decode cX5_buy 21 = .ok (.ireturn, 1) := by decide +kernel
theorem dX5_buy_22 : decode cX5_buy 22 = .ok (.aload_n 0, 1) := by decide +kernel
theorem dX5_buy_23 : decode cX5_buy 23 = .ok (.getfield 7, 3) := by decide +kernel
theorem dX5_buy_26 : decode cX5_buy 26 = .ok (.iload_n 1, 1) := by decide +kernel
theorem dX5_buy_27 : decode cX5_buy 27 = .ok (.iadd, 1) := by decide +kernel
theorem dX5_buy_28 : decode cX5_buy 28 = .ok (.sipush 9999, 3) := by decide +kernel
theorem dX5_buy_31 : decode cX5_buy 31 = .ok (.if_icmp .le 9, 3) := by decide +kernel
theorem dX5_buy_34 : decode cX5_buy 34 = .ok (.aload_n 0, 1) := by decide +kernel
theorem dX5_buy_35 : decode cX5_buy 35 = .ok (.iconst 2, 1) := by decide +kernel
theorem dX5_buy_36 : decode cX5_buy 36 = .ok (.invokevirtual 58, 3) := by decide +kernel
theorem dX5_buy_39 : decode cX5_buy 39 = .ok (.ireturn, 1) := by decide +kernel
theorem dX5_buy_40 : decode cX5_buy 40 = .ok (.aload_n 0, 1) := by decide +kernel
theorem dX5_buy_41 : decode cX5_buy 41 = .ok (.dup, 1) := by decide +kernel
theorem dX5_buy_42 : decode cX5_buy 42 = .ok (.getfield 7, 3) := by decide +kernel
theorem dX5_buy_45 : decode cX5_buy 45 = .ok (.iload_n 1, 1) := by decide +kernel
theorem dX5_buy_46 : decode cX5_buy 46 = .ok (.iadd, 1) := by decide +kernel
theorem dX5_buy_47 : decode cX5_buy 47 = .ok (.putfield 7, 3) := by decide +kernel
theorem dX5_buy_50 : decode cX5_buy 50 = .ok (.aload_n 0, 1) := by decide +kernel
theorem dX5_buy_51 : decode cX5_buy 51 = .ok (.getfield 7, 3) := by decide +kernel
theorem dX5_buy_54 : decode cX5_buy 54 = .ok (.ireturn, 1) := by decide +kernel
set_option maxRecDepth 20000 in
theorem ggX5_come_X5_isIn : GoodIn wsX5_come wsX5_isIn := goodIn_r _ [7] (by decide +kernel) (by decide +kernel)
set_option maxRecDepth 20000 in
theorem gX5_come_X5_isIn : GoodIn wsX5_come (va_wsS RX5 44 yX5_isIn wsX5_isIn) := goodIn_app (goodIn_of _ (by decide +kernel)) ggX5_come_X5_isIn
set_option maxRecDepth 20000 in
theorem ggX5_come_X5_no : GoodIn wsX5_come wsX5_no := goodIn_r _ [11, 1, 12, 13, 14, 15, 16, 17, 18, 19, 20, 21, 22, 23, 24, 25, 26, 27, 28] (by decide +kernel) (by decide +kernel)
set_option maxRecDepth 20000 in
theorem gX5_come_X5_no : GoodIn wsX5_come (wsV RX5 58 RX5 yX5_no wsX5_no) := goodIn_app (goodIn_of _ (by decide +kernel)) ggX5_come_X5_no
theorem dX5_come_0 : decode cX5_come 0 = .ok (.aload_n 0, 1) := by decide +kernel
theorem dX5_come_1 : decode cX5_come 1 = .ok (.iconst 0, 1) := by decide +kernel
theorem dX5_come_2 : decode cX5_come 2 = .ok (.putfield 38, 3) := by decide +kernel
theorem dX5_come_5 : decode cX5_come 5 = .ok (.iload_n 1, 1) := by decide +kernel
theorem dX5_come_6 : decode cX5_come 6 = .ok (.iconst 0, 1) := by decide +kernel
theorem dX5_come_7 : decode cX5_come 7 = .ok (.sipush 5000, 3) := by decide +kernel
theorem dX5_come_10 : decode cX5_come 10 = .ok (.invokestatic 44, 3) := by decide +kernel
theorem dX5_come_13 : decode cX5_come 13 = .ok (.ifCond .ne 9, 3) := by decide +kernel
theorem dX5_come_16 : decode cX5_come 16 = .ok (.aload_n 0, 1) := by decide +kernel
theorem dX5_come_17 : decode cX5_come 17 = .ok (.iconst 1, 1) := by decide +kernel
theorem dX5_come_18 : decode cX5_come 18 = .ok (.invokevirtual 58, 3) := by decide +kernel
theorem dX5_come_21 : decode cX5_come 21 = .ok (.ireturn, 1) := by decide +kernel
theorem dX5_come_22 : decode cX5_come 22 = .ok (.aload_n 0, 1) := by decide +kernel
theorem dX5_come_23 : decode cX5_come 23 = .ok (.getfield 41, 3) := by decide +kernel
theorem dX5_come_26 : decode cX5_come 26 = .ok (.bipush 6, 2) := by decide +kernel
theorem dX5_come_28 : decode cX5_come 28 = .ok (.if_icmp .ne 9, 3) := by decide +kernel
theorem dX5_come_31 : decode cX5_come 31 = .ok (.aload_n 0, 1) := by decide +kernel
theorem dX5_come_32 : decode cX5_come 32 = .ok (.iconst 2, 1) := by decide +kernel
theorem dX5_come_33 : decode cX5_come 33 = .ok (.invokevirtual 58, 3) := by decide +kernel
theorem dX5_come_36 : decode cX5_come 36 = .ok (.ireturn, 1) := by decide +kernel
theorem dX5_come_37 : decode cX5_come 37 = .ok (.aload_n 0, 1) := by decide +kernel
theorem dX5_come_38 : decode cX5_come 38 = .ok (.getfield 17, 3) := by decide +kernel
theorem dX5_come_41 : decode cX5_come 41 = .ok (.aload_n 0, 1) := by decide +kernel
theorem dX5_come_42 : decode cX5_come 42 = .ok (.getfield 41, 3) := by decide +kernel
theorem dX5_come_45 : decode cX5_come 45 = .ok (.iload_n 1, 1) := by decide +kernel
theorem dX5_come_46 : decode cX5_come 46 = .ok (.iastore, 1) := by decide +kernel
theorem dX5_come_47 : decode cX5_come 47 = .ok (.aload_n 0, 1) := by decide +kernel
theorem dX5_come_48 : decode cX5_come 48 = .ok (.dup, 1) := by decide +kernel
theorem dX5_come_49 : decode cX5_come 49 = .ok (.getfield 41, 3) := by decide +kernel
theorem dX5_come_52 : decode cX5_come 52 = .ok (.iconst 1, 1) := by decide +kernel
theorem dX5_come_53 : decode cX5_come 53 = .ok (.iadd, 1) := by decide +kernel
theorem dX5_come_54 : decode cX5_come 54 = .ok (.putfield 41, 3) := by decide +kernel
theorem dX5_come_57 : decode cX5_come 57 = .ok (.aload_n 0, 1) := by decide +kernel
theorem dX5_come_58 : decode cX5_come 58 = .ok (.getfield 41, 3) := by decide +kernel
theorem dX5_come_61 : decode cX5_come 61 = .ok (.iconst 1, 1) := by decide +kernel
theorem dX5_come_62 : decode cX5_come 62 = .ok (.isub, 1) := by decide +kernel
theorem dX5_come_63 : decode cX5_come 63 = .ok (.ireturn, 1) := by decide +kernel
set_option maxRecDepth 20000 in
theorem ggX5_rent_X5_isPrinter : GoodIn wsX5_rent wsX5_isPrinter := goodIn_r _ [6, 7, 8, 9, 5, 10, 34, 35, 36, 37, 38, 39, 40, 41, 42, 43, 44, 45, 46, 47, 48, 49, 50] (by decide +kernel) (by decide +kernel)
set_option maxRecDepth 20000 in
theorem gX5_rent_X5_isPrinter : GoodIn wsX5_rent (wsV RX5 74 RX5 yX5_isPrinter wsX5_isPrinter) := goodIn_app (goodIn_of _ (by decide +kernel)) ggX5_rent_X5_isPrinter
set_option maxRecDepth 20000 in
theorem ggX5_rent_X5_isSign : GoodIn wsX5_rent wsX5_isSign := goodIn_r _ [13, 8, 9, 5, 10] (by decide +kernel) (by decide +kernel)
set_option maxRecDepth 20000 in
theorem gX5_rent_X5_isSign : GoodIn wsX5_rent (va_wsS RX5 54 yX5_isSign wsX5_isSign) := goodIn_app (goodIn_of _ (by decide +kernel)) ggX5_rent_X5_isSign
set_option maxRecDepth 20000 in
theorem ggX5_rent_X5_no : GoodIn wsX5_rent wsX5_no := goodIn_r _ [17, 1, 34, 35, 36, 37, 38, 39, 40, 41, 42, 43, 44, 45, 46, 47, 48, 49, 50] (by decide +kernel) (by decide +kernel)
set_option maxRecDepth 20000 in
theorem gX5_rent_X5_no : GoodIn wsX5_rent (wsV RX5 58 RX5 yX5_no wsX5_no) := goodIn_app (goodIn_of _ (by decide +kernel)) ggX5_rent_X5_no
set_option maxRecDepth 20000 in
theorem ggX5_rent_X5_isIn : GoodIn wsX5_rent wsX5_isIn := goodIn_r _ [10] (by decide +kernel) (by decide +kernel)
set_option maxRecDepth 20000 in
theorem gX5_rent_X5_isIn : GoodIn wsX5_rent (va_wsS RX5 44 yX5_isIn wsX5_isIn) := goodIn_app (goodIn_of _ (by decide +kernel)) ggX5_rent_X5_isIn
set_option maxRecDepth 20000 in
theorem ggX5_rent_X5_many : GoodIn wsX5_rent wsX5_many := goodIn_r _ [21, 22, 34, 35, 36, 37, 38, 39, 40, 41, 42, 43, 44, 45, 46, 47, 48, 49, 50] (by decide +kernel) (by decide +kernel)
set_option maxRecDepth 20000 in
theorem gX5_rent_X5_many : GoodIn wsX5_rent (wsV RX5 65 RX5 yX5_many wsX5_many) := goodIn_app (goodIn_of _ (by decide +kernel)) ggX5_rent_X5_many
set_option maxRecDepth 20000 in
theorem ggX5_rent_X5_caseOf : GoodIn wsX5_rent wsX5_caseOf := goodIn_r _ [25] (by decide +kernel) (by decide +kernel)
set_option maxRecDepth 20000 in
theorem gX5_rent_X5_caseOf : GoodIn wsX5_rent (va_wsS RX5 77 yX5_caseOf wsX5_caseOf) := goodIn_app (goodIn_of _ (by decide +kernel)) ggX5_rent_X5_caseOf
set_option maxRecDepth 20000 in
theorem ggX5_rent_X5_move : GoodIn wsX5_rent wsX5_move := goodIn_r _ [29, 22, 30, 31, 32, 33, 34, 35, 36, 37, 38, 39, 40, 41, 42, 43, 44, 45, 46, 47, 48, 49, 50] (by decide +kernel) (by decide +kernel)
set_option maxRecDepth 20000 in
theorem gX5_rent_X5_move : GoodIn wsX5_rent (wsV RX5 80 RX5 yX5_move wsX5_move) := goodIn_app (goodIn_of _ (by decide +kernel)) ggX5_rent_X5_move
theorem dX5_rent_0 : decode cX5_rent 0 = .ok (.aload_n 0, 1) := by decide +kernel
theorem dX5_rent_1 : decode cX5_rent 1 = .ok (.iconst 0, 1) := by decide +kernel
theorem dX5_rent_2 : decode cX5_rent 2 = .ok (.putfield 38, 3) := by decide +kernel
theorem dX5_rent_5 : decode cX5_rent 5 = .ok (.aload_n 0, 1) := by decide +kernel
theorem dX5_rent_6 : decode cX5_rent 6 = .ok (.iload_n 1, 1) := by decide +kernel
theorem dX5_rent_7 : decode cX5_rent 7 = .ok (.invokevirtual 74, 3) := by decide +kernel
theorem dX5_rent_10 : decode cX5_rent 10 = .ok (.ifCond .eq 10, 3) := by decide +kernel
theorem dX5_rent_13 : decode cX5_rent 13 = .ok (.iload_n 2, 1) := by decide +kernel
theorem dX5_rent_14 : decode cX5_rent 14 = .ok (.invokestatic 54, 3) := by decide +kernel
theorem dX5_rent_17 : decode cX5_rent 17 = .ok (.ifCond .ne 9, 3) := by decide +kernel
theorem dX5_rent_20 : decode cX5_rent 20 = .ok (.aload_n 0, 1) := by decide +kernel
theorem dX5_rent_21 : decode cX5_rent 21 = .ok (.iconst 1, 1) := by decide +kernel
theorem dX5_rent_22 : decode cX5_rent 22 = .ok (.invokevirtual 58, 3) := by decide +kernel
theorem dX5_rent_25 : decode cX5_rent 25 = .ok (.ireturn, 1) := by decide +kernel
theorem dX5_rent_26 : decode cX5_rent 26 = .ok (.iload_n 3, 1) := by decide +kernel
theorem dX5_rent_27 : decode cX5_rent 27 = .ok (.iconst 1, 1) := by decide +kernel
theorem dX5_rent_28 : decode cX5_rent 28 = .ok (.sipush 200, 3) := by decide +kernel
theorem dX5_rent_31 : decode cX5_rent 31 = .ok (.invokestatic 44, 3) := by decide +kernel
theorem dX5_rent_34 : decode cX5_rent 34 = .ok (.ifCond .ne 9, 3) := by decide +kernel
theorem dX5_rent_37 : decode cX5_rent 37 = .ok (.aload_n 0, 1) := by decide +kernel
theorem dX5_rent_38 : decode cX5_rent 38 = .ok (.iconst 2, 1) := by decide +kernel
theorem dX5_rent_39 : decode cX5_rent 39 = .ok (.invokevirtual 58, 3) := by decide +kernel
theorem dX5_rent_42 : decode cX5_rent 42 = .ok (.ireturn, 1) := by decide +kernel
theorem dX5_rent_43 : decode cX5_rent 43 = .ok (.aload_n 0, 1) := by decide +kernel
theorem dX5_rent_44 : decode cX5_rent 44 = .ok (.iconst 0, 1) := by decide +kernel
theorem dX5_rent_45 : decode cX5_rent 45 = .ok (.iload_n 2, 1) := by decide +kernel
theorem dX5_rent_46 : decode cX5_rent 46 = .ok (.invokevirtual 65, 3) := by decide +kernel
theorem dX5_rent_49 : decode cX5_rent 49 = .ok (.iload_n 3, 1) := by decide +kernel
theorem dX5_rent_50 : decode cX5_rent 50 = .ok (.if_icmp .ge 11, 3) := by decide +kernel
theorem dX5_rent_53 : decode cX5_rent 53 = .ok (.aload_n 0, 1) := by decide +kernel
theorem dX5_rent_54 : decode cX5_rent 54 = .ok (.iconst 3, 1) := by decide +kernel
theorem dX5_rent_55 : decode cX5_rent 55 = .ok (.invokevirtual 58, 3) := by decide +kernel
theorem dX5_rent_58 : decode cX5_rent 58 = .ok (.goto 15, 3) := by decide +kernel
theorem dX5_rent_61 : decode cX5_rent 61 = .ok (.aload_n 0, 1) := by decide +kernel
theorem dX5_rent_62 : decode cX5_rent 62 = .ok (.iconst 0, 1) := by decide +kernel
theorem dX5_rent_63 : decode cX5_rent 63 = .ok (.iload_n 1, 1) := by decide +kernel
theorem dX5_rent_64 : decode cX5_rent 64 = .ok (.invokestatic 77, 3) := by decide +kernel
theorem dX5_rent_67 : decode cX5_rent 67 = .ok (.iload_n 2, 1) := by decide +kernel
theorem dX5_rent_68 : decode cX5_rent 68 = .ok (.iload_n 3, 1) := by decide +kernel
theorem dX5_rent_69 : decode cX5_rent 69 = .ok (.iconst 0, 1) := by decide +kernel
theorem dX5_rent_70 : decode cX5_rent 70 = .ok (.invokevirtual 80, 3) := by decide +kernel
theorem dX5_rent_73 : decode cX5_rent 73 = .ok (.ireturn, 1) := by decide +kernel
set_option maxRecDepth 20000 in
theorem ggX5_giveBack_X5_isPrinter : GoodIn wsX5_giveBack wsX5_isPrinter := goodIn_r _ [6, 7, 8, 9, 5, 10, 34, 35, 36, 37, 38, 39, 40, 41, 42, 43, 44, 45, 46, 47, 48, 49, 50] (by decide +kernel) (by decide +kernel)
set_option maxRecDepth 20000 in
theorem gX5_giveBack_X5_isPrinter : GoodIn wsX5_giveBack (wsV RX5 74 RX5 yX5_isPrinter wsX5_isPrinter) := goodIn_app (goodIn_of _ (by decide +kernel)) ggX5_giveBack_X5_isPrinter
set_option maxRecDepth 20000 in
theorem ggX5_giveBack_X5_isSign : GoodIn wsX5_giveBack wsX5_isSign := goodIn_r _ [13, 8, 9, 5, 10] (by decide +kernel) (by decide +kernel)
set_option maxRecDepth 20000 in
theorem gX5_giveBack_X5_isSign : GoodIn wsX5_giveBack (va_wsS RX5 54 yX5_isSign wsX5_isSign) := goodIn_app (goodIn_of _ (by decide +kernel)) ggX5_giveBack_X5_isSign
set_option maxRecDepth 20000 in
theorem ggX5_giveBack_X5_no : GoodIn wsX5_giveBack wsX5_no := goodIn_r _ [17, 1, 34, 35, 36, 37, 38, 39, 40, 41, 42, 43, 44, 45, 46, 47, 48, 49, 50] (by decide +kernel) (by decide +kernel)
set_option maxRecDepth 20000 in
theorem gX5_giveBack_X5_no : GoodIn wsX5_giveBack (wsV RX5 58 RX5 yX5_no wsX5_no) := goodIn_app (goodIn_of _ (by decide +kernel)) ggX5_giveBack_X5_no
set_option maxRecDepth 20000 in
theorem ggX5_giveBack_X5_isIn : GoodIn wsX5_giveBack wsX5_isIn := goodIn_r _ [10] (by decide +kernel) (by decide +kernel)
set_option maxRecDepth 20000 in
theorem gX5_giveBack_X5_isIn : GoodIn wsX5_giveBack (va_wsS RX5 44 yX5_isIn wsX5_isIn) := goodIn_app (goodIn_of _ (by decide +kernel)) ggX5_giveBack_X5_isIn
set_option maxRecDepth 20000 in
theorem ggX5_giveBack_X5_caseOf : GoodIn wsX5_giveBack wsX5_caseOf := goodIn_r _ [20] (by decide +kernel) (by decide +kernel)
set_option maxRecDepth 20000 in
theorem gX5_giveBack_X5_caseOf : GoodIn wsX5_giveBack (va_wsS RX5 77 yX5_caseOf wsX5_caseOf) := goodIn_app (goodIn_of _ (by decide +kernel)) ggX5_giveBack_X5_caseOf
set_option maxRecDepth 20000 in
theorem ggX5_giveBack_X5_many : GoodIn wsX5_giveBack wsX5_many := goodIn_r _ [24, 25, 34, 35, 36, 37, 38, 39, 40, 41, 42, 43, 44, 45, 46, 47, 48, 49, 50] (by decide +kernel) (by decide +kernel)
set_option maxRecDepth 20000 in
theorem gX5_giveBack_X5_many : GoodIn wsX5_giveBack (wsV RX5 65 RX5 yX5_many wsX5_many) := goodIn_app (goodIn_of _ (by decide +kernel)) ggX5_giveBack_X5_many
set_option maxRecDepth 20000 in
theorem ggX5_giveBack_X5_move : GoodIn wsX5_giveBack wsX5_move := goodIn_r _ [29, 25, 30, 31, 32, 33, 34, 35, 36, 37, 38, 39, 40, 41, 42, 43, 44, 45, 46, 47, 48, 49, 50] (by decide +kernel) (by decide +kernel)
set_option maxRecDepth 20000 in
theorem gX5_giveBack_X5_move : GoodIn wsX5_giveBack (wsV RX5 80 RX5 yX5_move wsX5_move) := goodIn_app (goodIn_of _ (by decide +kernel)) ggX5_giveBack_X5_move
theorem dX5_giveBack_0 : decode cX5_giveBack 0 = .ok (.aload_n 0, 1) := by decide +kernel
theorem dX5_giveBack_1 : decode cX5_giveBack 1 = .ok (.iconst 0, 1) := by decide +kernel
theorem dX5_giveBack_2 : decode cX5_giveBack 2 = .ok (.putfield 38, 3) := by decide +kernel
theorem dX5_giveBack_5 : decode cX5_giveBack 5 = .ok (.aload_n 0, 1) := by decide +kernel
theorem dX5_giveBack_6 : decode cX5_giveBack 6 = .ok (.iload_n 1, 1) := by decide +kernel
theorem dX5_giveBack_7 : decode cX5_giveBack 7 = .ok (.invokevirtual 74, 3) := by decide +kernel
theorem dX5_giveBack_10 : decode cX5_giveBack 10 = .ok (.ifCond .eq 10, 3) := by decide +kernel
theorem dX5_giveBack_13 : decode cX5_giveBack 13 = .ok (.iload_n 2, 1) := by decide +kernel
theorem dX5_giveBack_14 : decode cX5_giveBack 14 = .ok (.invokestatic 54, 3) := by decide +kernel
theorem dX5_giveBack_17 : decode cX5_giveBack 17 = .ok (.ifCond .ne 9, 3) := by decide +kernel
theorem dX5_giveBack_20 : decode cX5_giveBack 20 = .ok (.aload_n 0, 1) := by decide +kernel
theorem dX5_giveBack_21 : decode cX5_giveBack 21 = .ok (.iconst 1, 1) := by decide +kernel
theorem dX5_giveBack_22 : decode cX5_giveBack 22 = .ok (.invokevirtual 58, 3) := by decide +kernel
theorem dX5_giveBack_25 : decode cX5_giveBack 25 = .ok (.ireturn, 1) := by decide +kernel
theorem dX5_giveBack_26 : decode cX5_giveBack 26 = .ok (.iload_n 3, 1) := by decide +kernel
theorem dX5_giveBack_27 : decode cX5_giveBack 27 = .ok (.iconst 1, 1) := by decide +kernel
theorem dX5_giveBack_28 : decode cX5_giveBack 28 = .ok (.sipush 200, 3) := by decide +kernel
theorem dX5_giveBack_31 : decode cX5_giveBack 31 = .ok (.invokestatic 44, 3) := by decide +kernel
theorem dX5_giveBack_34 : decode cX5_giveBack 34 = .ok (.ifCond .ne 9, 3) := by decide +kernel
theorem dX5_giveBack_37 : decode cX5_giveBack 37 = .ok (.aload_n 0, 1) := by decide +kernel
theorem dX5_giveBack_38 : decode cX5_giveBack 38 = .ok (.iconst 2, 1) := by decide +kernel
theorem dX5_giveBack_39 : decode cX5_giveBack 39 = .ok (.invokevirtual 58, 3) := by decide +kernel
theorem dX5_giveBack_42 : decode cX5_giveBack 42 = .ok (.ireturn, 1) := by decide +kernel
theorem dX5_giveBack_43 : decode cX5_giveBack 43 = .ok (.aload_n 0, 1) := by decide +kernel
theorem dX5_giveBack_44 : decode cX5_giveBack 44 = .ok (.iload_n 1, 1) := by decide +kernel
theorem dX5_giveBack_45 : decode cX5_giveBack 45 = .ok (.invokestatic 77, 3) := by decide +kernel
theorem dX5_giveBack_48 : decode cX5_giveBack 48 = .ok (.iload_n 2, 1) := by decide +kernel
theorem dX5_giveBack_49 : decode cX5_giveBack 49 = .ok (.invokevirtual 65, 3) := by decide +kernel
theorem dX5_giveBack_52 : decode cX5_giveBack 52 = .ok (.iload_n 3, 1) := by decide +kernel
theorem dX5_giveBack_53 : decode cX5_giveBack 53 = .ok (.if_icmp .ge 11, 3) := by decide +kernel
theorem dX5_giveBack_56 : decode cX5_giveBack 56 = .ok (.aload_n 0, 1) := by decide +kernel
theorem dX5_giveBack_57 : decode cX5_giveBack 57 = .ok (.iconst 3, 1) := by decide +kernel
theorem dX5_giveBack_58 : decode cX5_giveBack 58 = .ok (.invokevirtual 58, 3) := by decide +kernel
theorem dX5_giveBack_61 : decode cX5_giveBack 61 = .ok (.goto 16, 3) := by decide +kernel
theorem dX5_giveBack_64 : decode cX5_giveBack 64 = .ok (.aload_n 0, 1) := by decide +kernel
theorem dX5_giveBack_65 : decode cX5_giveBack 65 = .ok (.iload_n 1, 1) := by decide +kernel
theorem dX5_giveBack_66 : decode cX5_giveBack 66 = .ok (.invokestatic 77, 3) := by decide +kernel
theorem dX5_giveBack_69 : decode cX5_giveBack 69 = .ok (.iconst 0, 1) := by decide +kernel
theorem dX5_giveBack_70 : decode cX5_giveBack 70 = .ok (.iload_n 2, 1) := by decide +kernel
theorem dX5_giveBack_71 : decode cX5_giveBack 71 = .ok (.iload_n 3, 1) := by decide +kernel
theorem dX5_giveBack_72 : decode cX5_giveBack 72 = .ok (.bipush 9, 2) := by decide +kernel
theorem dX5_giveBack_74 : decode cX5_giveBack 74 = .ok (.invokevirtual 80, 3) := by decide +kernel
theorem dX5_giveBack_77 : decode cX5_giveBack 77 = .ok (.ireturn, 1) := by decide +kernel
set_option maxRecDepth 20000 in
theorem ggX5_pay_X5_isPrinter : GoodIn wsX5_pay wsX5_isPrinter := goodIn_r _ [13, 14, 15, 16, 12, 17, 22, 23, 24, 25, 26, 27, 28, 29, 30, 31, 32, 33, 34, 35, 36, 37, 38] (by decide +kernel) (by decide +kernel)
set_option maxRecDepth 20000 in
theorem gX5_pay_X5_isPrinter : GoodIn wsX5_pay (wsV RX5 74 RX5 yX5_isPrinter wsX5_isPrinter) := goodIn_app (goodIn_of _ (by decide +kernel)) ggX5_pay_X5_isPrinter
set_option maxRecDepth 20000 in
theorem ggX5_pay_X5_no : GoodIn wsX5_pay wsX5_no := goodIn_r _ [21, 1, 22, 23, 24, 25, 26, 27, 28, 29, 30, 31, 32, 33, 34, 35, 36, 37, 38] (by decide +kernel) (by decide +kernel)
set_option maxRecDepth 20000 in
theorem gX5_pay_X5_no : GoodIn wsX5_pay (wsV RX5 58 RX5 yX5_no wsX5_no) := goodIn_app (goodIn_of _ (by decide +kernel)) ggX5_pay_X5_no
theorem dX5_pay_0 : decode cX5_pay 0 = .ok (.aload_n 0, 1) := by decide +kernel
theorem dX5_pay_1 : decode cX5_pay 1 = .ok (.iconst 0, 1) := by decide +kernel
theorem dX5_pay_2 : decode cX5_pay 2 = .ok (.putfield 38, 3) := by decide +kernel
theorem dX5_pay_5 : decode cX5_pay 5 = .ok (.aload_n 0, 1) := by decide +kernel
theorem dX5_pay_6 : decode cX5_pay 6 = .ok (.iload_n 1, 1) := by decide +kernel
theorem dX5_pay_7 : decode cX5_pay 7 = .ok (.invokevirtual 74, 3) := by decide +kernel
theorem dX5_pay_10 : decode cX5_pay 10 = .ok (.ifCond .ne 9, 3) := by decide +kernel
theorem dX5_pay_13 : decode cX5_pay 13 = .ok (.aload_n 0, 1) := by decide +kernel
theorem dX5_pay_14 : decode cX5_pay 14 = .ok (.iconst 1, 1) := by decide +kernel
theorem dX5_pay_15 : decode cX5_pay 15 = .ok (.invokevirtual 58, 3) := by decide +kernel
theorem dX5_pay_18 : decode cX5_pay 18 = .ok (.ireturn, 1) := by decide +kernel
theorem dX5_pay_19 : decode cX5_pay 19 = .ok (.aload_n 0, 1) := by decide +kernel
theorem dX5_pay_20 : decode cX5_pay 20 = .ok (.getfield 17, 3) := by decide +kernel
theorem dX5_pay_23 : decode cX5_pay 23 = .ok (.iload_n 1, 1) := by decide +kernel
theorem dX5_pay_24 : decode cX5_pay 24 = .ok (.iaload, 1) := by decide +kernel
theorem dX5_pay_25 : decode cX5_pay 25 = .ok (.aload_n 0, 1) := by decide +kernel
theorem dX5_pay_26 : decode cX5_pay 26 = .ok (.getfield 20, 3) := by decide +kernel
theorem dX5_pay_29 : decode cX5_pay 29 = .ok (.iload_n 1, 1) := by decide +kernel
theorem dX5_pay_30 : decode cX5_pay 30 = .ok (.iaload, 1) := by decide +kernel
theorem dX5_pay_31 : decode cX5_pay 31 = .ok (.invokestatic 48, 3) := by decide +kernel
theorem dX5_pay_34 : decode cX5_pay 34 = .ok (.istore_n 2, 1) := by decide +kernel
theorem dX5_pay_35 : decode cX5_pay 35 = .ok (.aload_n 0, 1) := by decide +kernel
theorem dX5_pay_36 : decode cX5_pay 36 = .ok (.getfield 17, 3) := by decide +kernel
theorem dX5_pay_39 : decode cX5_pay 39 = .ok (.iload_n 1, 1) := by decide +kernel
theorem dX5_pay_40 : decode cX5_pay 40 = .ok (.dup2, 1) := by decide +kernel
theorem dX5_pay_41 : decode cX5_pay 41 = .ok (.iaload, 1) := by decide +kernel
theorem dX5_pay_42 : decode cX5_pay 42 = .ok (.iload_n 2, 1) := by decide +kernel
theorem dX5_pay_43 : decode cX5_pay 43 = .ok (.isub, 1) := by decide +kernel
theorem dX5_pay_44 : decode cX5_pay 44 = .ok (.iastore, 1) := by decide +kernel
theorem dX5_pay_45 : decode cX5_pay 45 = .ok (.aload_n 0, 1) := by decide +kernel
theorem dX5_pay_46 : decode cX5_pay 46 = .ok (.getfield 20, 3) := by decide +kernel
theorem dX5_pay_49 : decode cX5_pay 49 = .ok (.iload_n 1, 1) := by decide +kernel
theorem dX5_pay_50 : decode cX5_pay 50 = .ok (.dup2, 1) := by decide +kernel
theorem dX5_pay_51 : decode cX5_pay 51 = .ok (.iaload, 1) := by decide +kernel
theorem dX5_pay_52 : decode cX5_pay 52 = .ok (.iload_n 2, 1) := by decide +kernel
theorem dX5_pay_53 : decode cX5_pay 53 = .ok (.isub, 1) := by decide +kernel
theorem dX5_pay_54 : decode cX5_pay 54 = .ok (.iastore, 1) := by decide +kernel
theorem dX5_pay_55 : decode cX5_pay 55 = .ok (.aload_n 0, 1) := by decide +kernel
theorem dX5_pay_56 : decode cX5_pay 56 = .ok (.dup, 1) := by decide +kernel
theorem dX5_pay_57 : decode cX5_pay 57 = .ok (.getfield 84, 3) := by decide +kernel
theorem dX5_pay_60 : decode cX5_pay 60 = .ok (.iload_n 2, 1) := by decide +kernel
theorem dX5_pay_61 : decode cX5_pay 61 = .ok (.iadd, 1) := by decide +kernel
theorem dX5_pay_62 : decode cX5_pay 62 = .ok (.putfield 84, 3) := by decide +kernel
theorem dX5_pay_65 : decode cX5_pay 65 = .ok (.iload_n 2, 1) := by decide +kernel
theorem dX5_pay_66 : decode cX5_pay 66 = .ok (.ireturn, 1) := by decide +kernel
theorem dX5_isWord_0 : decode cX5_isWord 0 = .ok (.aload_n 0, 1) := by decide +kernel
theorem dX5_isWord_1 : decode cX5_isWord 1 = .ok (.iconst 0, 1) := by decide +kernel
theorem dX5_isWord_2 : decode cX5_isWord 2 = .ok (.putfield 87, 3) := by decide +kernel
theorem dX5_isWord_5 : decode cX5_isWord 5 = .ok (.iload_n 1, 1) := by decide +kernel
theorem dX5_isWord_6 : decode cX5_isWord 6 = .ok (.istore_n 2, 1) := by decide +kernel
theorem dX5_isWord_7 : decode cX5_isWord 7 = .ok (.iload_n 1, 1) := by decide +kernel
theorem dX5_isWord_8 : decode cX5_isWord 8 = .ok (.ifCond .le 7, 3) := by decide +kernel
theorem dX5_isWord_11 : decode cX5_isWord 11 = .ok (.iconst 1, 1) := by decide +kernel
theorem dX5_isWord_12 : decode cX5_isWord 12 = .ok (.goto 4, 3) := by decide +kernel
theorem dX5_isWord_15 : decode cX5_isWord 15 = .ok (.iconst 0, 1) := by decide +kernel
theorem dX5_isWord_16 : decode cX5_isWord 16 = .ok (.istore_n 3, 1) := by decide +kernel
theorem dX5_isWord_17 : decode cX5_isWord 17 = .ok (.iload_n 2, 1) := by decide +kernel
theorem dX5_isWord_18 : decode cX5_isWord 18 = .ok (.ifCond .le 51, 3) := by decide +kernel
theorem dX5_isWord_21 : decode cX5_isWord 21 = .ok (.iload_n 3, 1) := by decide +kernel
theorem dX5_isWord_22 : decode cX5_isWord 22 = .ok (.ifCond .eq 47, 3) := by decide +kernel
theorem dX5_isWord_25 : decode cX5_isWord 25 = .ok (.iload_n 2, 1) := by decide +kernel
theorem dX5_isWord_26 : decode cX5_isWord 26 = .ok (.bipush 27, 2) := by decide +kernel
theorem dX5_isWord_28 : decode cX5_isWord 28 = .ok (.irem, 1) := by decide +kernel
theorem dX5_isWord_29 : decode cX5_isWord 29 = .ok (.ifCond .le 16, 3) := by decide +kernel
theorem dX5_isWord_32 : decode cX5_isWord 32 = .ok (.aload_n 0, 1) := by decide +kernel
theorem dX5_isWord_33 : decode cX5_isWord 33 = .ok (.getfield 87, 3) := by decide +kernel
theorem dX5_isWord_36 : decode cX5_isWord 36 = .ok (.bipush 6, 2) := by decide +kernel
theorem dX5_isWord_38 : decode cX5_isWord 38 = .ok (.if_icmp .ge 7, 3) := by decide +kernel
theorem dX5_isWord_41 : decode cX5_isWord 41 = .ok (.iconst 1, 1) := by decide +kernel
theorem dX5_isWord_42 : decode cX5_isWord 42 = .ok (.goto 4, 3) := by decide +kernel
theorem dX5_isWord_45 : decode cX5_isWord 45 = .ok (.iconst 0, 1) := by decide +kernel
theorem dX5_isWord_46 : decode cX5_isWord 46 = .ok (.istore_n 3, 1) := by decide +kernel
theorem dX5_isWord_47 : decode cX5_isWord 47 = .ok (.iload_n 3, 1) := by decide +kernel
theorem dX5_isWord_48 : decode cX5_isWord 48 = .ok (.ifCond .eq 13, 3) := by decide +kernel
theorem dX5_isWord_51 : decode cX5_isWord 51 = .ok (.aload_n 0, 1) := by decide +kernel
theorem dX5_isWord_52 : decode cX5_isWord 52 = .ok (.dup, 1) := by decide +kernel
theorem dX5_isWord_53 : decode cX5_isWord 53 = .ok (.getfield 87, 3) := by decide +kernel
theorem dX5_isWord_56 : decode cX5_isWord 56 = .ok (.iconst 1, 1) := by decide +kernel
theorem dX5_isWord_57 : decode cX5_isWord 57 = .ok (.iadd, 1) := by decide +kernel
theorem dX5_isWord_58 : decode cX5_isWord 58 = .ok (.putfield 87, 3) := by decide +kernel
theorem dX5_isWord_61 : decode cX5_isWord 61 = .ok (.iload_n 2, 1) := by decide +kernel
theorem dX5_isWord_62 : decode cX5_isWord 62 = .ok (.bipush 27, 2) := by decide +kernel
theorem dX5_isWord_64 : decode cX5_isWord 64 = .ok (.idiv, 1) := by decide +kernel
theorem dX5_isWord_65 : decode cX5_isWord 65 = .ok (.istore_n 2, 1) := by decide +kernel
theorem dX5_isWord_66 : decode cX5_isWord 66 = .ok (.goto (-49), 3) := by decide +kernel
theorem dX5_isWord_69 : decode cX5_isWord 69 = .ok (.iload_n 1, 1) := by decide +kernel
theorem dX5_isWord_70 : decode cX5_isWord 70 = .ok (.istore_n 2, 1) := by decide +kernel
theorem dX5_isWord_71 : decode cX5_isWord 71 = .ok (.aload_n 0, 1) := by decide +kernel
theorem dX5_isWord_72 : decode cX5_isWord 72 = .ok (.getfield 87, 3) := by decide +kernel
theorem dX5_isWord_75 : decode cX5_isWord 75 = .ok (.iconst 1, 1) := by decide +kernel
theorem dX5_isWord_76 : decode cX5_isWord 76 = .ok (.isub, 1) := by decide +kernel
theorem dX5_isWord_77 : decode cX5_isWord 77 = .ok (.istore 4, 2) := by decide +kernel
theorem dX5_isWord_79 : decode cX5_isWord 79 = .ok (.iload 4, 2) := by decide +kernel
theorem dX5_isWord_81 : decode cX5_isWord 81 = .ok (.ifCond .lt 31, 3) := by decide +kernel
theorem dX5_isWord_84 : decode cX5_isWord 84 = .ok (.iload_n 3, 1) := by decide +kernel
theorem dX5_isWord_85 : decode cX5_isWord 85 = .ok (.ifCond .eq 27, 3) := by decide +kernel
theorem dX5_isWord_88 : decode cX5_isWord 88 = .ok (.aload_n 0, 1) := by decide +kernel
theorem dX5_isWord_89 : decode cX5_isWord 89 = .ok (.getfield 29, 3) := by decide +kernel
theorem dX5_isWord_92 : decode cX5_isWord 92 = .ok (.iload 4, 2) := by decide +kernel
theorem dX5_isWord_94 : decode cX5_isWord 94 = .ok (.iload_n 2, 1) := by decide +kernel
theorem dX5_isWord_95 : decode cX5_isWord 95 = .ok (.bipush 27, 2) := by decide +kernel
theorem dX5_isWord_97 : decode cX5_isWord 97 = .ok (.irem, 1) := by decide +kernel
theorem dX5_isWord_98 : decode cX5_isWord 98 = .ok (.iconst 1, 1) := by decide +kernel
theorem dX5_isWord_99 : decode cX5_isWord 99 = .ok (.isub, 1) := by decide +kernel
theorem dX5_isWord_100 : decode cX5_isWord 100 = .ok (.iastore, 1) := by decide +kernel
theorem dX5_isWord_101 : decode cX5_isWord 101 = .ok (.iload_n 2, 1) := by decide +kernel
theorem dX5_isWord_102 : decode cX5_isWord 102 = .ok (.bipush 27, 2) := by decide +kernel
theorem dX5_isWord_104 : decode cX5_isWord 104 = .ok (.idiv, 1) := by decide +kernel
theorem dX5_isWord_105 : decode cX5_isWord 105 = .ok (.istore_n 2, 1) := by decide +kernel
theorem dX5_isWord_106 : decode cX5_isWord 106 = .ok (.iinc 4 (-1), 3) := by decide +kernel
theorem dX5_isWord_109 : decode cX5_isWord 109 = .ok (.goto (-30), 3) := by decide +kernel
theorem dX5_isWord_112 : decode cX5_isWord 112 = .ok (.iload_n 3, 1) := by decide +kernel
theorem dX5_isWord_113 : decode cX5_isWord 113 = .ok (.ireturn, 1) := by decide +kernel
theorem dX5_ligature_0 : decode cX5_ligature 0 = .ok (.aload_n 0, 1) := by decide +kernel
theorem dX5_ligature_1 : decode cX5_ligature 1 = .ok (.getfield 29, 3) := by decide +kernel
theorem dX5_ligature_4 : decode cX5_ligature 4 = .ok (.iload_n 1, 1) := by decide +kernel
theorem dX5_ligature_5 : decode cX5_ligature 5 = .ok (.iaload, 1) := by decide +kernel
theorem dX5_ligature_6 : decode cX5_ligature 6 = .ok (.iconst 5, 1) := by decide +kernel
theorem dX5_ligature_7 : decode cX5_ligature 7 = .ok (.if_icmp .ne 13, 3) := by decide +kernel
theorem dX5_ligature_10 : decode cX5_ligature 10 = .ok (.iload_n 1, 1) := by decide +kernel
theorem dX5_ligature_11 : decode cX5_ligature 11 = .ok (.aload_n 0, 1) := by decide +kernel
theorem dX5_ligature_12 : decode cX5_ligature 12 = .ok (.getfield 87, 3) := by decide +kernel
theorem dX5_ligature_15 : decode cX5_ligature 15 = .ok (.iconst 1, 1) := by decide +kernel
theorem dX5_ligature_16 : decode cX5_ligature 16 = .ok (.isub, 1) := by decide +kernel
theorem dX5_ligature_17 : decode cX5_ligature 17 = .ok (.if_icmp .ne 5, 3) := by decide +kernel
theorem dX5_ligature_20 : decode cX5_ligature 20 = .ok (.iconst (-1), 1) := by decide +kernel
theorem dX5_ligature_21 : decode cX5_ligature 21 = .ok (.ireturn, 1) := by decide +kernel
theorem dX5_ligature_22 : decode cX5_ligature 22 = .ok (.aload_n 0, 1) := by decide +kernel
theorem dX5_ligature_23 : decode cX5_ligature 23 = .ok (.getfield 29, 3) := by decide +kernel
theorem dX5_ligature_26 : decode cX5_ligature 26 = .ok (.iload_n 1, 1) := by decide +kernel
theorem dX5_ligature_27 : decode cX5_ligature 27 = .ok (.iconst 1, 1) := by decide +kernel
theorem dX5_ligature_28 : decode cX5_ligature 28 = .ok (.iadd, 1) := by decide +kernel
theorem dX5_ligature_29 : decode cX5_ligature 29 = .ok (.iaload, 1) := by decide +kernel
theorem dX5_ligature_30 : decode cX5_ligature 30 = .ok (.istore_n 2, 1) := by decide +kernel
theorem dX5_ligature_31 : decode cX5_ligature 31 = .ok (.iload_n 2, 1) := by decide +kernel
theorem dX5_ligature_32 : decode cX5_ligature 32 = .ok (.bipush 8, 2) := by decide +kernel
theorem dX5_ligature_34 : decode cX5_ligature 34 = .ok (.if_icmp .ne 8, 3) := by decide +kernel
theorem dX5_ligature_37 : decode cX5_ligature 37 = .ok (.bipush 26, 2) := by decide +kernel
theorem dX5_ligature_39 : decode cX5_ligature 39 = .ok (.goto 25, 3) := by decide +kernel
theorem dX5_ligature_42 : decode cX5_ligature 42 = .ok (.iload_n 2, 1) := by decide +kernel
theorem dX5_ligature_43 : decode cX5_ligature 43 = .ok (.bipush 11, 2) := by decide +kernel
theorem dX5_ligature_45 : decode cX5_ligature 45 = .ok (.if_icmp .ne 8, 3) := by decide +kernel
theorem dX5_ligature_48 : decode cX5_ligature 48 = .ok (.bipush 27, 2) := by decide +kernel
theorem dX5_ligature_50 : decode cX5_ligature 50 = .ok (.goto 14, 3) := by decide +kernel
theorem dX5_ligature_53 : decode cX5_ligature 53 = .ok (.iload_n 2, 1) := by decide +kernel
theorem dX5_ligature_54 : decode cX5_ligature 54 = .ok (.iconst 5, 1) := by decide +kernel
theorem dX5_ligature_55 : decode cX5_ligature 55 = .ok (.if_icmp .ne 8, 3) := by decide +kernel
theorem dX5_ligature_58 : decode cX5_ligature 58 = .ok (.bipush 28, 2) := by decide +kernel
theorem dX5_ligature_60 : decode cX5_ligature 60 = .ok (.goto 4, 3) := by decide +kernel
theorem dX5_ligature_63 : decode cX5_ligature 63 = .ok (.iconst (-1), 1) := by decide +kernel
theorem dX5_ligature_64 : decode cX5_ligature 64 = .ok (.ireturn, 1) := by decide +kernel
end
section
set_option maxRecDepth 20000 in
theorem ggX5_compose_J7_fill_53178 : GoodIn wsX5_compose wsJ7_fill_53178 := goodIn_r _ [8] (by decide +kernel) (by decide +kernel)
set_option maxRecDepth 20000 in
theorem gX5_compose_J7_fill_53178 : GoodIn wsX5_compose (va_wsS RX5 90 yJ7_fill_53178 wsJ7_fill_53178) := goodIn_app (goodIn_of _ (by decide +kernel)) ggX5_compose_J7_fill_53178
set_option maxRecDepth 20000 in
theorem ggX5_compose_X5_ligature : GoodIn wsX5_compose wsX5_ligature := goodIn_r _ [13, 4, 2, 14, 15, 16, 17, 18, 19, 20, 21, 22, 23, 24, 25, 26, 27, 28, 29, 30] (by decide +kernel) (by decide +kernel)
set_option maxRecDepth 20000 in
theorem gX5_compose_X5_ligature : GoodIn wsX5_compose (wsV RX5 96 RX5 yX5_ligature wsX5_ligature) := goodIn_app (goodIn_of _ (by decide +kernel)) ggX5_compose_X5_ligature
theorem dX5_compose_0 : decode cX5_compose 0 = .ok (.iconst 0, 1) := by decide +kernel
theorem dX5_compose_1 : decode cX5_compose 1 = .ok (.istore_n 1, 1) := by decide +kernel
theorem dX5_compose_2 : decode cX5_compose 2 = .ok (.aload_n 0, 1) := by decide +kernel
theorem dX5_compose_3 : decode cX5_compose 3 = .ok (.getfield 32, 3) := by decide +kernel
theorem dX5_compose_6 : decode cX5_compose 6 = .ok (.iconst 0, 1) := by decide +kernel
theorem dX5_compose_7 : decode cX5_compose 7 = .ok (.invokestatic 90, 3) := by decide +kernel
theorem dX5_compose_10 : decode cX5_compose 10 = .ok (.iconst 0, 1) := by decide +kernel
theorem dX5_compose_11 : decode cX5_compose 11 = .ok (.istore_n 2, 1) := by decide +kernel
theorem dX5_compose_12 : decode cX5_compose 12 = .ok (.iload_n 2, 1) := by decide +kernel
theorem dX5_compose_13 : decode cX5_compose 13 = .ok (.aload_n 0, 1) := by decide +kernel
theorem dX5_compose_14 : decode cX5_compose 14 = .ok (.getfield 87, 3) := by decide +kernel
theorem dX5_compose_17 : decode cX5_compose 17 = .ok (.if_icmp .ge 76, 3) := by decide +kernel
theorem dX5_compose_20 : decode cX5_compose 20 = .ok (.aload_n 0, 1) := by decide +kernel
theorem dX5_compose_21 : decode cX5_compose 21 = .ok (.iload_n 2, 1) := by decide +kernel
theorem dX5_compose_22 : decode cX5_compose 22 = .ok (.invokevirtual 96, 3) := by decide +kernel
theorem dX5_compose_25 : decode cX5_compose 25 = .ok (.istore_n 3, 1) := by decide +kernel
theorem dX5_compose_26 : decode cX5_compose 26 = .ok (.iload_n 3, 1) := by decide +kernel
theorem dX5_compose_27 : decode cX5_compose 27 = .ok (.iconst (-1), 1) := by decide +kernel
theorem dX5_compose_28 : decode cX5_compose 28 = .ok (.if_icmp .eq 12, 3) := by decide +kernel
theorem dX5_compose_31 : decode cX5_compose 31 = .ok (.aload_n 0, 1) := by decide +kernel
theorem dX5_compose_32 : decode cX5_compose 32 = .ok (.getfield 35, 3) := by decide +kernel
theorem dX5_compose_35 : decode cX5_compose 35 = .ok (.iload_n 3, 1) := by decide +kernel
theorem dX5_compose_36 : decode cX5_compose 36 = .ok (.iaload, 1) := by decide +kernel
theorem dX5_compose_37 : decode cX5_compose 37 = .ok (.ifCond .ne 13, 3) := by decide +kernel
theorem dX5_compose_40 : decode cX5_compose 40 = .ok (.aload_n 0, 1) := by decide +kernel
theorem dX5_compose_41 : decode cX5_compose 41 = .ok (.getfield 29, 3) := by decide +kernel
theorem dX5_compose_44 : decode cX5_compose 44 = .ok (.iload_n 2, 1) := by decide +kernel
theorem dX5_compose_45 : decode cX5_compose 45 = .ok (.iaload, 1) := by decide +kernel
theorem dX5_compose_46 : decode cX5_compose 46 = .ok (.istore_n 3, 1) := by decide +kernel
theorem dX5_compose_47 : decode cX5_compose 47 = .ok (.goto 6, 3) := by decide +kernel
theorem dX5_compose_50 : decode cX5_compose 50 = .ok (.iinc 2 1, 3) := by decide +kernel
theorem dX5_compose_53 : decode cX5_compose 53 = .ok (.aload_n 0, 1) := by decide +kernel
theorem dX5_compose_54 : decode cX5_compose 54 = .ok (.getfield 35, 3) := by decide +kernel
theorem dX5_compose_57 : decode cX5_compose 57 = .ok (.iload_n 3, 1) := by decide +kernel
theorem dX5_compose_58 : decode cX5_compose 58 = .ok (.iaload, 1) := by decide +kernel
theorem dX5_compose_59 : decode cX5_compose 59 = .ok (.ifCond .ne 5, 3) := by decide +kernel
theorem dX5_compose_62 : decode cX5_compose 62 = .ok (.iconst (-1), 1) := by decide +kernel
theorem dX5_compose_63 : decode cX5_compose 63 = .ok (.ireturn, 1) := by decide +kernel
theorem dX5_compose_64 : decode cX5_compose 64 = .ok (.aload_n 0, 1) := by decide +kernel
theorem dX5_compose_65 : decode cX5_compose 65 = .ok (.getfield 35, 3) := by decide +kernel
theorem dX5_compose_68 : decode cX5_compose 68 = .ok (.iload_n 3, 1) := by decide +kernel
theorem dX5_compose_69 : decode cX5_compose 69 = .ok (.dup2, 1) := by decide +kernel
theorem dX5_compose_70 : decode cX5_compose 70 = .ok (.iaload, 1) := by decide +kernel
theorem dX5_compose_71 : decode cX5_compose 71 = .ok (.iconst 1, 1) := by decide +kernel
theorem dX5_compose_72 : decode cX5_compose 72 = .ok (.isub, 1) := by decide +kernel
theorem dX5_compose_73 : decode cX5_compose 73 = .ok (.iastore, 1) := by decide +kernel
theorem dX5_compose_74 : decode cX5_compose 74 = .ok (.aload_n 0, 1) := by decide +kernel
theorem dX5_compose_75 : decode cX5_compose 75 = .ok (.getfield 32, 3) := by decide +kernel
theorem dX5_compose_78 : decode cX5_compose 78 = .ok (.iload_n 3, 1) := by decide +kernel
theorem dX5_compose_79 : decode cX5_compose 79 = .ok (.dup2, 1) := by decide +kernel
theorem dX5_compose_80 : decode cX5_compose 80 = .ok (.iaload, 1) := by decide +kernel
theorem dX5_compose_81 : decode cX5_compose 81 = .ok (.iconst 1, 1) := by decide +kernel
theorem dX5_compose_82 : decode cX5_compose 82 = .ok (.iadd, 1) := by decide +kernel
theorem dX5_compose_83 : decode cX5_compose 83 = .ok (.iastore, 1) := by decide +kernel
theorem dX5_compose_84 : decode cX5_compose 84 = .ok (.iinc 1 1, 3) := by decide +kernel
theorem dX5_compose_87 : decode cX5_compose 87 = .ok (.iinc 2 1, 3) := by decide +kernel
theorem dX5_compose_90 : decode cX5_compose 90 = .ok (.goto (-78), 3) := by decide +kernel
theorem dX5_compose_93 : decode cX5_compose 93 = .ok (.iload_n 1, 1) := by decide +kernel
theorem dX5_compose_94 : decode cX5_compose 94 = .ok (.ireturn, 1) := by decide +kernel
set_option maxRecDepth 20000 in
theorem ggX5_look_X5_caseOf : GoodIn wsX5_look wsX5_caseOf := goodIn_r _ [5] (by decide +kernel) (by decide +kernel)
set_option maxRecDepth 20000 in
theorem gX5_look_X5_caseOf : GoodIn wsX5_look (va_wsS RX5 77 yX5_caseOf wsX5_caseOf) := goodIn_app (goodIn_of _ (by decide +kernel)) ggX5_look_X5_caseOf
set_option maxRecDepth 20000 in
theorem ggX5_look_X5_many : GoodIn wsX5_look wsX5_many := goodIn_r _ [9, 10, 11, 12, 13, 14, 15, 16, 17, 18, 19, 20, 21, 22, 23, 24, 25, 26, 27] (by decide +kernel) (by decide +kernel)
set_option maxRecDepth 20000 in
theorem gX5_look_X5_many : GoodIn wsX5_look (wsV RX5 65 RX5 yX5_many wsX5_many) := goodIn_app (goodIn_of _ (by decide +kernel)) ggX5_look_X5_many
theorem dX5_look_0 : decode cX5_look 0 = .ok (.iconst 0, 1) := by decide +kernel
theorem dX5_look_1 : decode cX5_look 1 = .ok (.istore_n 2, 1) := by decide +kernel
theorem dX5_look_2 : decode cX5_look 2 = .ok (.iload_n 2, 1) := by decide +kernel
theorem dX5_look_3 : decode cX5_look 3 = .ok (.bipush 29, 2) := by decide +kernel
theorem dX5_look_5 : decode cX5_look 5 = .ok (.if_icmp .ge 24, 3) := by decide +kernel
theorem dX5_look_8 : decode cX5_look 8 = .ok (.aload_n 0, 1) := by decide +kernel
theorem dX5_look_9 : decode cX5_look 9 = .ok (.getfield 35, 3) := by decide +kernel
theorem dX5_look_12 : decode cX5_look 12 = .ok (.iload_n 2, 1) := by decide +kernel
theorem dX5_look_13 : decode cX5_look 13 = .ok (.aload_n 0, 1) := by decide +kernel
theorem dX5_look_14 : decode cX5_look 14 = .ok (.iload_n 1, 1) := by decide +kernel
theorem dX5_look_15 : decode cX5_look 15 = .ok (.invokestatic 77, 3) := by decide +kernel
theorem dX5_look_18 : decode cX5_look 18 = .ok (.iload_n 2, 1) := by decide +kernel
theorem dX5_look_19 : decode cX5_look 19 = .ok (.invokevirtual 65, 3) := by decide +kernel
theorem dX5_look_22 : decode cX5_look 22 = .ok (.iastore, 1) := by decide +kernel
theorem dX5_look_23 : decode cX5_look 23 = .ok (.iinc 2 1, 3) := by decide +kernel
theorem dX5_look_26 : decode cX5_look 26 = .ok (.goto (-24), 3) := by decide +kernel
theorem dX5_look_29 : decode cX5_look 29 = .ok (.return_, 1) := by decide +kernel
set_option maxRecDepth 20000 in
theorem ggX5_set_X5_isPrinter : GoodIn wsX5_set wsX5_isPrinter := goodIn_r _ [8, 9, 10, 11, 7, 12, 63, 64, 65, 66, 67, 68, 69, 70, 71, 72, 73, 74, 75, 76, 77, 78, 79] (by decide +kernel) (by decide +kernel)
set_option maxRecDepth 20000 in
theorem gX5_set_X5_isPrinter : GoodIn wsX5_set (wsV RX5 74 RX5 yX5_isPrinter wsX5_isPrinter) := goodIn_app (goodIn_of _ (by decide +kernel)) ggX5_set_X5_isPrinter
set_option maxRecDepth 20000 in
theorem ggX5_set_X5_no : GoodIn wsX5_set wsX5_no := goodIn_r _ [16, 1, 63, 64, 65, 66, 67, 68, 69, 70, 71, 72, 73, 74, 75, 76, 77, 78, 79] (by decide +kernel) (by decide +kernel)
set_option maxRecDepth 20000 in
theorem gX5_set_X5_no : GoodIn wsX5_set (wsV RX5 58 RX5 yX5_no wsX5_no) := goodIn_app (goodIn_of _ (by decide +kernel)) ggX5_set_X5_no
set_option maxRecDepth 20000 in
theorem ggX5_set_X5_isWord : GoodIn wsX5_set wsX5_isWord := goodIn_r _ [20, 21, 22, 63, 64, 65, 66, 67, 68, 69, 70, 71, 72, 73, 74, 75, 76, 77, 78, 79] (by decide +kernel) (by decide +kernel)
set_option maxRecDepth 20000 in
theorem gX5_set_X5_isWord : GoodIn wsX5_set (wsV RX5 99 RX5 yX5_isWord wsX5_isWord) := goodIn_app (goodIn_of _ (by decide +kernel)) ggX5_set_X5_isWord
set_option maxRecDepth 20000 in
theorem ggX5_set_X5_look : GoodIn wsX5_set wsX5_look := goodIn_r _ [26, 27, 28, 29, 7, 30, 31, 32, 33, 34, 35, 63, 64, 65, 66, 67, 68, 69, 70, 71, 72, 73, 74, 75, 76, 77, 78, 79] (by decide +kernel) (by decide +kernel)
set_option maxRecDepth 20000 in
theorem gX5_set_X5_look : GoodIn wsX5_set (wsV RX5 102 RX5 yX5_look wsX5_look) := goodIn_app (goodIn_of _ (by decide +kernel)) ggX5_set_X5_look
set_option maxRecDepth 20000 in
theorem ggX5_set_X5_compose : GoodIn wsX5_set wsX5_compose := goodIn_r _ [39, 2, 21, 27, 22, 40, 41, 42, 43, 44, 45, 46, 7, 47, 63, 64, 65, 66, 67, 68, 69, 70, 71, 72, 73, 74, 75, 76, 77, 78, 79] (by decide +kernel) (by decide +kernel)
set_option maxRecDepth 20000 in
theorem gX5_set_X5_compose : GoodIn wsX5_set (wsV RX5 106 RX5 yX5_compose wsX5_compose) := goodIn_app (goodIn_of _ (by decide +kernel)) ggX5_set_X5_compose
set_option maxRecDepth 20000 in
theorem ggX5_set_X5_formOf : GoodIn wsX5_set wsX5_formOf := goodIn_r _ [50] (by decide +kernel) (by decide +kernel)
set_option maxRecDepth 20000 in
theorem gX5_set_X5_formOf : GoodIn wsX5_set (va_wsS RX5 110 yX5_formOf wsX5_formOf) := goodIn_app (goodIn_of _ (by decide +kernel)) ggX5_set_X5_formOf
set_option maxRecDepth 20000 in
theorem ggX5_set_X5_all : GoodIn wsX5_set wsX5_all := goodIn_r _ [54, 35, 63, 64, 65, 66, 67, 68, 69, 70, 71, 72, 73, 74, 75, 76, 77, 78, 79] (by decide +kernel) (by decide +kernel)
set_option maxRecDepth 20000 in
theorem gX5_set_X5_all : GoodIn wsX5_set (wsV RX5 113 RX5 yX5_all wsX5_all) := goodIn_app (goodIn_of _ (by decide +kernel)) ggX5_set_X5_all
set_option maxRecDepth 20000 in
theorem ggX5_set_X5_caseOf : GoodIn wsX5_set wsX5_caseOf := goodIn_r _ [30] (by decide +kernel) (by decide +kernel)
set_option maxRecDepth 20000 in
theorem gX5_set_X5_caseOf : GoodIn wsX5_set (va_wsS RX5 77 yX5_caseOf wsX5_caseOf) := goodIn_app (goodIn_of _ (by decide +kernel)) ggX5_set_X5_caseOf
set_option maxRecDepth 20000 in
theorem ggX5_set_X5_move : GoodIn wsX5_set wsX5_move := goodIn_r _ [58, 35, 59, 60, 61, 62, 63, 64, 65, 66, 67, 68, 69, 70, 71, 72, 73, 74, 75, 76, 77, 78, 79] (by decide +kernel) (by decide +kernel)
set_option maxRecDepth 20000 in
theorem gX5_set_X5_move : GoodIn wsX5_set (wsV RX5 80 RX5 yX5_move wsX5_move) := goodIn_app (goodIn_of _ (by decide +kernel)) ggX5_set_X5_move
theorem dX5_set_0 : decode cX5_set 0 = .ok (.aload_n 0, 1) := by decide +kernel
theorem dX5_set_1 : decode cX5_set 1 = .ok (.iconst 0, 1) := by decide +kernel
theorem dX5_set_2 : decode cX5_set 2 = .ok (.putfield 38, 3) := by decide +kernel
theorem dX5_set_5 : decode cX5_set 5 = .ok (.aload_n 0, 1) := by decide +kernel
theorem dX5_set_6 : decode cX5_set 6 = .ok (.iload_n 1, 1) := by decide +kernel
theorem dX5_set_7 : decode cX5_set 7 = .ok (.invokevirtual 74, 3) := by decide +kernel
theorem dX5_set_10 : decode cX5_set 10 = .ok (.ifCond .ne 9, 3) := by decide +kernel
theorem dX5_set_13 : decode cX5_set 13 = .ok (.aload_n 0, 1) := by decide +kernel
theorem dX5_set_14 : decode cX5_set 14 = .ok (.iconst 1, 1) := by decide +kernel
theorem dX5_set_15 : decode cX5_set 15 = .ok (.invokevirtual 58, 3) := by decide +kernel
theorem dX5_set_18 : decode cX5_set 18 = .ok (.ireturn, 1) := by decide +kernel
theorem dX5_set_19 : decode cX5_set 19 = .ok (.aload_n 0, 1) := by decide +kernel
theorem dX5_set_20 : decode cX5_set 20 = .ok (.iload_n 2, 1) := by decide +kernel
theorem dX5_set_21 : decode cX5_set 21 = .ok (.invokevirtual 99, 3) := by decide +kernel
theorem dX5_set_24 : decode cX5_set 24 = .ok (.ifCond .ne 9, 3) := by decide +kernel
theorem dX5_set_27 : decode cX5_set 27 = .ok (.aload_n 0, 1) := by decide +kernel
theorem dX5_set_28 : decode cX5_set 28 = .ok (.iconst 2, 1) := by decide +kernel
theorem dX5_set_29 : decode cX5_set 29 = .ok (.invokevirtual 58, 3) := by decide +kernel
theorem dX5_set_32 : decode cX5_set 32 = .ok (.ireturn, 1) := by decide +kernel
theorem dX5_set_33 : decode cX5_set 33 = .ok (.aload_n 0, 1) := by decide +kernel
theorem dX5_set_34 : decode cX5_set 34 = .ok (.iload_n 1, 1) := by decide +kernel
theorem dX5_set_35 : decode cX5_set 35 = .ok (.invokevirtual 102, 3) := by decide +kernel
theorem dX5_set_38 : decode cX5_set 38 = .ok (.aload_n 0, 1) := by decide +kernel
theorem dX5_set_39 : decode cX5_set 39 = .ok (.invokevirtual 106, 3) := by decide +kernel
theorem dX5_set_42 : decode cX5_set 42 = .ok (.istore_n 3, 1) := by decide +kernel
theorem dX5_set_43 : decode cX5_set 43 = .ok (.iload_n 3, 1) := by decide +kernel
theorem dX5_set_44 : decode cX5_set 44 = .ok (.iconst (-1), 1) := by decide +kernel
theorem dX5_set_45 : decode cX5_set 45 = .ok (.if_icmp .eq 18, 3) := by decide +kernel
theorem dX5_set_48 : decode cX5_set 48 = .ok (.aload_n 0, 1) := by decide +kernel
theorem dX5_set_49 : decode cX5_set 49 = .ok (.iload_n 1, 1) := by decide +kernel
theorem dX5_set_50 : decode cX5_set 50 = .ok (.invokestatic 110, 3) := by decide +kernel
theorem dX5_set_53 : decode cX5_set 53 = .ok (.invokevirtual 113, 3) := by decide +kernel
theorem dX5_set_56 : decode cX5_set 56 = .ok (.iload_n 3, 1) := by decide +kernel
theorem dX5_set_57 : decode cX5_set 57 = .ok (.iadd, 1) := by decide +kernel
theorem dX5_set_58 : decode cX5_set 58 = .ok (.bipush 60, 2) := by decide +kernel
theorem dX5_set_60 : decode cX5_set 60 = .ok (.if_icmp .le 9, 3) := by decide +kernel
theorem dX5_set_63 : decode cX5_set 63 = .ok (.aload_n 0, 1) := by decide +kernel
theorem dX5_set_64 : decode cX5_set 64 = .ok (.iconst 3, 1) := by decide +kernel
theorem dX5_set_65 : decode cX5_set 65 = .ok (.invokevirtual 58, 3) := by decide +kernel
theorem dX5_set_68 : decode cX5_set 68 = .ok (.ireturn, 1) := by decide +kernel
theorem dX5_set_69 : decode cX5_set 69 = .ok (.iconst 0, 1) := by decide +kernel
theorem dX5_set_70 : decode cX5_set 70 = .ok (.istore 4, 2) := by decide +kernel
theorem dX5_set_72 : decode cX5_set 72 = .ok (.iload 4, 2) := by decide +kernel
theorem dX5_set_74 : decode cX5_set 74 = .ok (.bipush 29, 2) := by decide +kernel
theorem dX5_set_76 : decode cX5_set 76 = .ok (.if_icmp .ge 33, 3) := by decide +kernel
theorem dX5_set_79 : decode cX5_set 79 = .ok (.aload_n 0, 1) := by decide +kernel
theorem dX5_set_80 : decode cX5_set 80 = .ok (.iload_n 1, 1) := by decide +kernel
theorem dX5_set_81 : decode cX5_set 81 = .ok (.invokestatic 77, 3) := by decide +kernel
theorem dX5_set_84 : decode cX5_set 84 = .ok (.iload_n 1, 1) := by decide +kernel
theorem dX5_set_85 : decode cX5_set 85 = .ok (.invokestatic 110, 3) := by decide +kernel
theorem dX5_set_88 : decode cX5_set 88 = .ok (.iload 4, 2) := by decide +kernel
theorem dX5_set_90 : decode cX5_set 90 = .ok (.aload_n 0, 1) := by decide +kernel
theorem dX5_set_91 : decode cX5_set 91 = .ok (.getfield 32, 3) := by decide +kernel
theorem dX5_set_94 : decode cX5_set 94 = .ok (.iload 4, 2) := by decide +kernel
theorem dX5_set_96 : decode cX5_set 96 = .ok (.iaload, 1) := by decide +kernel
theorem dX5_set_97 : decode cX5_set 97 = .ok (.bipush 9, 2) := by decide +kernel
theorem dX5_set_99 : decode cX5_set 99 = .ok (.invokevirtual 80, 3) := by decide +kernel
theorem dX5_set_102 : decode cX5_set 102 = .ok (.pop, 1) := by decide +kernel
theorem dX5_set_103 : decode cX5_set 103 = .ok (.iinc 4 1, 3) := by decide +kernel
theorem dX5_set_106 : decode cX5_set 106 = .ok (.goto (-34), 3) := by decide +kernel
theorem dX5_set_109 : decode cX5_set 109 = .ok (.aload_n 0, 1) := by decide +kernel
theorem dX5_set_110 : decode cX5_set 110 = .ok (.getfield 26, 3) := by decide +kernel
theorem dX5_set_113 : decode cX5_set 113 = .ok (.iload_n 1, 1) := by decide +kernel
theorem dX5_set_114 : decode cX5_set 114 = .ok (.dup2, 1) := by decide +kernel
theorem dX5_set_115 : decode cX5_set 115 = .ok (.iaload, 1) := by decide +kernel
theorem dX5_set_116 : decode cX5_set 116 = .ok (.iconst 1, 1) := by decide +kernel
theorem dX5_set_117 : decode cX5_set 117 = .ok (.iadd, 1) := by decide +kernel
theorem dX5_set_118 : decode cX5_set 118 = .ok (.iastore, 1) := by decide +kernel
theorem dX5_set_119 : decode cX5_set 119 = .ok (.iload_n 3, 1) := by decide +kernel
theorem dX5_set_120 : decode cX5_set 120 = .ok (.ireturn, 1) := by decide +kernel
set_option maxRecDepth 20000 in
theorem ggX5_print_X5_isPrinter : GoodIn wsX5_print wsX5_isPrinter := goodIn_r _ [9, 10, 11, 12, 8, 13, 25, 26, 27, 28, 29, 30, 31, 32, 33, 34, 35, 36, 37, 38, 39, 40, 41] (by decide +kernel) (by decide +kernel)
set_option maxRecDepth 20000 in
theorem gX5_print_X5_isPrinter : GoodIn wsX5_print (wsV RX5 74 RX5 yX5_isPrinter wsX5_isPrinter) := goodIn_app (goodIn_of _ (by decide +kernel)) ggX5_print_X5_isPrinter
set_option maxRecDepth 20000 in
theorem ggX5_print_X5_no : GoodIn wsX5_print wsX5_no := goodIn_r _ [17, 1, 25, 26, 27, 28, 29, 30, 31, 32, 33, 34, 35, 36, 37, 38, 39, 40, 41] (by decide +kernel) (by decide +kernel)
set_option maxRecDepth 20000 in
theorem gX5_print_X5_no : GoodIn wsX5_print (wsV RX5 58 RX5 yX5_no wsX5_no) := goodIn_app (goodIn_of _ (by decide +kernel)) ggX5_print_X5_no
set_option maxRecDepth 20000 in
theorem ggX5_print_X5_isIn : GoodIn wsX5_print wsX5_isIn := goodIn_r _ [13] (by decide +kernel) (by decide +kernel)
set_option maxRecDepth 20000 in
theorem gX5_print_X5_isIn : GoodIn wsX5_print (va_wsS RX5 44 yX5_isIn wsX5_isIn) := goodIn_app (goodIn_of _ (by decide +kernel)) ggX5_print_X5_isIn
set_option maxRecDepth 20000 in
theorem ggX5_print_X5_formOf : GoodIn wsX5_print wsX5_formOf := goodIn_r _ [20] (by decide +kernel) (by decide +kernel)
set_option maxRecDepth 20000 in
theorem gX5_print_X5_formOf : GoodIn wsX5_print (va_wsS RX5 110 yX5_formOf wsX5_formOf) := goodIn_app (goodIn_of _ (by decide +kernel)) ggX5_print_X5_formOf
set_option maxRecDepth 20000 in
theorem ggX5_print_X5_all : GoodIn wsX5_print wsX5_all := goodIn_r _ [24, 2, 25, 26, 27, 28, 29, 30, 31, 32, 33, 34, 35, 36, 37, 38, 39, 40, 41] (by decide +kernel) (by decide +kernel)
set_option maxRecDepth 20000 in
theorem gX5_print_X5_all : GoodIn wsX5_print (wsV RX5 113 RX5 yX5_all wsX5_all) := goodIn_app (goodIn_of _ (by decide +kernel)) ggX5_print_X5_all
theorem dX5_print_0 : decode cX5_print 0 = .ok (.aload_n 0, 1) := by decide +kernel
theorem dX5_print_1 : decode cX5_print 1 = .ok (.iconst 0, 1) := by decide +kernel
theorem dX5_print_2 : decode cX5_print 2 = .ok (.putfield 38, 3) := by decide +kernel
theorem dX5_print_5 : decode cX5_print 5 = .ok (.aload_n 0, 1) := by decide +kernel
theorem dX5_print_6 : decode cX5_print 6 = .ok (.iload_n 1, 1) := by decide +kernel
theorem dX5_print_7 : decode cX5_print 7 = .ok (.invokevirtual 74, 3) := by decide +kernel
theorem dX5_print_10 : decode cX5_print 10 = .ok (.ifCond .ne 9, 3) := by decide +kernel
theorem dX5_print_13 : decode cX5_print 13 = .ok (.aload_n 0, 1) := by decide +kernel
theorem dX5_print_14 : decode cX5_print 14 = .ok (.iconst 1, 1) := by decide +kernel
theorem dX5_print_15 : decode cX5_print 15 = .ok (.invokevirtual 58, 3) := by decide +kernel
theorem dX5_print_18 : decode cX5_print 18 = .ok (.ireturn, 1) := by decide +kernel
theorem dX5_print_19 : decode cX5_print 19 = .ok (.iload_n 2, 1) := by decide +kernel
theorem dX5_print_20 : decode cX5_print 20 = .ok (.iconst 1, 1) := by decide +kernel
theorem dX5_print_21 : decode cX5_print 21 = .ok (.sipush 1000, 3) := by decide +kernel
theorem dX5_print_24 : decode cX5_print 24 = .ok (.invokestatic 44, 3) := by decide +kernel
theorem dX5_print_27 : decode cX5_print 27 = .ok (.ifCond .ne 9, 3) := by decide +kernel
theorem dX5_print_30 : decode cX5_print 30 = .ok (.aload_n 0, 1) := by decide +kernel
theorem dX5_print_31 : decode cX5_print 31 = .ok (.iconst 2, 1) := by decide +kernel
theorem dX5_print_32 : decode cX5_print 32 = .ok (.invokevirtual 58, 3) := by decide +kernel
theorem dX5_print_35 : decode cX5_print 35 = .ok (.ireturn, 1) := by decide +kernel
theorem dX5_print_36 : decode cX5_print 36 = .ok (.iload_n 1, 1) := by decide +kernel
theorem dX5_print_37 : decode cX5_print 37 = .ok (.invokestatic 110, 3) := by decide +kernel
theorem dX5_print_40 : decode cX5_print 40 = .ok (.istore_n 3, 1) := by decide +kernel
theorem dX5_print_41 : decode cX5_print 41 = .ok (.aload_n 0, 1) := by decide +kernel
theorem dX5_print_42 : decode cX5_print 42 = .ok (.iload_n 3, 1) := by decide +kernel
theorem dX5_print_43 : decode cX5_print 43 = .ok (.invokevirtual 113, 3) := by decide +kernel
theorem dX5_print_46 : decode cX5_print 46 = .ok (.ifCond .ne 9, 3) := by decide +kernel
theorem dX5_print_49 : decode cX5_print 49 = .ok (.aload_n 0, 1) := by decide +kernel
theorem dX5_print_50 : decode cX5_print 50 = .ok (.iconst 3, 1) := by decide +kernel
theorem dX5_print_51 : decode cX5_print 51 = .ok (.invokevirtual 58, 3) := by decide +kernel
theorem dX5_print_54 : decode cX5_print 54 = .ok (.ireturn, 1) := by decide +kernel
theorem dX5_print_55 : decode cX5_print 55 = .ok (.iload_n 2, 1) := by decide +kernel
theorem dX5_print_56 : decode cX5_print 56 = .ok (.bipush 50, 2) := by decide +kernel
theorem dX5_print_58 : decode cX5_print 58 = .ok (.idiv, 1) := by decide +kernel
theorem dX5_print_59 : decode cX5_print 59 = .ok (.istore 4, 2) := by decide +kernel
theorem dX5_print_61 : decode cX5_print 61 = .ok (.iconst 0, 1) := by decide +kernel
theorem dX5_print_62 : decode cX5_print 62 = .ok (.istore 5, 2) := by decide +kernel
theorem dX5_print_64 : decode cX5_print 64 = .ok (.sipush 289, 3) := by decide +kernel
theorem dX5_print_67 : decode cX5_print 67 = .ok (.istore 6, 2) := by decide +kernel
theorem dX5_print_69 : decode cX5_print 69 = .ok (.iload 6, 2) := by decide +kernel
theorem dX5_print_71 : decode cX5_print 71 = .ok (.ifCond .lt 75, 3) := by decide +kernel
theorem dX5_print_74 : decode cX5_print 74 = .ok (.iload 4, 2) := by decide +kernel
theorem dX5_print_76 : decode cX5_print 76 = .ok (.ifCond .le 70, 3) := by decide +kernel
theorem dX5_print_79 : decode cX5_print 79 = .ok (.aload_n 0, 1) := by decide +kernel
theorem dX5_print_80 : decode cX5_print 80 = .ok (.getfield 13, 3) := by decide +kernel
theorem dX5_print_83 : decode cX5_print 83 = .ok (.iload_n 3, 1) := by decide +kernel
theorem dX5_print_84 : decode cX5_print 84 = .ok (.iload 6, 2) := by decide +kernel
theorem dX5_print_86 : decode cX5_print 86 = .ok (.iadd, 1) := by decide +kernel
theorem dX5_print_87 : decode cX5_print 87 = .ok (.iaload, 1) := by decide +kernel
theorem dX5_print_88 : decode cX5_print 88 = .ok (.istore 7, 2) := by decide +kernel
theorem dX5_print_90 : decode cX5_print 90 = .ok (.aload_n 0, 1) := by decide +kernel
theorem dX5_print_91 : decode cX5_print 91 = .ok (.getfield 13, 3) := by decide +kernel
theorem dX5_print_94 : decode cX5_print 94 = .ok (.iload_n 3, 1) := by decide +kernel
theorem dX5_print_95 : decode cX5_print 95 = .ok (.iload 6, 2) := by decide +kernel
theorem dX5_print_97 : decode cX5_print 97 = .ok (.iadd, 1) := by decide +kernel
theorem dX5_print_98 : decode cX5_print 98 = .ok (.iconst 0, 1) := by decide +kernel
theorem dX5_print_99 : decode cX5_print 99 = .ok (.iastore, 1) := by decide +kernel
theorem dX5_print_100 : decode cX5_print 100 = .ok (.iload 6, 2) := by decide +kernel
theorem dX5_print_102 : decode cX5_print 102 = .ok (.bipush 10, 2) := by decide +kernel
theorem dX5_print_104 : decode cX5_print 104 = .ok (.irem, 1) := by decide +kernel
theorem dX5_print_105 : decode cX5_print 105 = .ok (.iload 4, 2) := by decide +kernel
theorem dX5_print_107 : decode cX5_print 107 = .ok (.iadd, 1) := by decide +kernel
theorem dX5_print_108 : decode cX5_print 108 = .ok (.bipush 9, 2) := by decide +kernel
theorem dX5_print_110 : decode cX5_print 110 = .ok (.if_icmp .le 13, 3) := by decide +kernel
theorem dX5_print_113 : decode cX5_print 113 = .ok (.iload 5, 2) := by decide +kernel
theorem dX5_print_115 : decode cX5_print 115 = .ok (.iload 7, 2) := by decide +kernel
theorem dX5_print_117 : decode cX5_print 117 = .ok (.iadd, 1) := by decide +kernel
theorem dX5_print_118 : decode cX5_print 118 = .ok (.istore 5, 2) := by decide +kernel
theorem dX5_print_120 : decode cX5_print 120 = .ok (.goto 20, 3) := by decide +kernel
theorem dX5_print_123 : decode cX5_print 123 = .ok (.aload_n 0, 1) := by decide +kernel
theorem dX5_print_124 : decode cX5_print 124 = .ok (.getfield 13, 3) := by decide +kernel
theorem dX5_print_127 : decode cX5_print 127 = .ok (.iload_n 3, 1) := by decide +kernel
theorem dX5_print_128 : decode cX5_print 128 = .ok (.iload 6, 2) := by decide +kernel
theorem dX5_print_130 : decode cX5_print 130 = .ok (.iadd, 1) := by decide +kernel
theorem dX5_print_131 : decode cX5_print 131 = .ok (.iload 4, 2) := by decide +kernel
theorem dX5_print_133 : decode cX5_print 133 = .ok (.iadd, 1) := by decide +kernel
theorem dX5_print_134 : decode cX5_print 134 = .ok (.dup2, 1) := by decide +kernel
theorem dX5_print_135 : decode cX5_print 135 = .ok (.iaload, 1) := by decide +kernel
theorem dX5_print_136 : decode cX5_print 136 = .ok (.iload 7, 2) := by decide +kernel
theorem dX5_print_138 : decode cX5_print 138 = .ok (.iadd, 1) := by decide +kernel
theorem dX5_print_139 : decode cX5_print 139 = .ok (.iastore, 1) := by decide +kernel
theorem dX5_print_140 : decode cX5_print 140 = .ok (.iinc 6 (-1), 3) := by decide +kernel
theorem dX5_print_143 : decode cX5_print 143 = .ok (.goto (-74), 3) := by decide +kernel
theorem dX5_print_146 : decode cX5_print 146 = .ok (.aload_n 0, 1) := by decide +kernel
theorem dX5_print_147 : decode cX5_print 147 = .ok (.getfield 23, 3) := by decide +kernel
theorem dX5_print_150 : decode cX5_print 150 = .ok (.iload_n 1, 1) := by decide +kernel
theorem dX5_print_151 : decode cX5_print 151 = .ok (.dup2, 1) := by decide +kernel
theorem dX5_print_152 : decode cX5_print 152 = .ok (.iaload, 1) := by decide +kernel
theorem dX5_print_153 : decode cX5_print 153 = .ok (.iload_n 2, 1) := by decide +kernel
theorem dX5_print_154 : decode cX5_print 154 = .ok (.iadd, 1) := by decide +kernel
theorem dX5_print_155 : decode cX5_print 155 = .ok (.iastore, 1) := by decide +kernel
theorem dX5_print_156 : decode cX5_print 156 = .ok (.aload_n 0, 1) := by decide +kernel
theorem dX5_print_157 : decode cX5_print 157 = .ok (.dup, 1) := by decide +kernel
theorem dX5_print_158 : decode cX5_print 158 = .ok (.getfield 116, 3) := by decide +kernel
theorem dX5_print_161 : decode cX5_print 161 = .ok (.iload 5, 2) := by decide +kernel
theorem dX5_print_163 : decode cX5_print 163 = .ok (.iadd, 1) := by decide +kernel
theorem dX5_print_164 : decode cX5_print 164 = .ok (.putfield 116, 3) := by decide +kernel
theorem dX5_print_167 : decode cX5_print 167 = .ok (.iload 5, 2) := by decide +kernel
theorem dX5_print_169 : decode cX5_print 169 = .ok (.ireturn, 1) := by decide +kernel
set_option maxRecDepth 20000 in
theorem ggX5_distribute_X5_isPrinter : GoodIn wsX5_distribute wsX5_isPrinter := goodIn_r _ [8, 9, 10, 11, 7, 12, 27, 28, 29, 30, 31, 32, 33, 34, 35, 36, 37, 38, 39, 40, 41, 42, 43] (by decide +kernel) (by decide +kernel)
set_option maxRecDepth 20000 in
theorem gX5_distribute_X5_isPrinter : GoodIn wsX5_distribute (wsV RX5 74 RX5 yX5_isPrinter wsX5_isPrinter) := goodIn_app (goodIn_of _ (by decide +kernel)) ggX5_distribute_X5_isPrinter
set_option maxRecDepth 20000 in
theorem ggX5_distribute_X5_no : GoodIn wsX5_distribute wsX5_no := goodIn_r _ [16, 1, 27, 28, 29, 30, 31, 32, 33, 34, 35, 36, 37, 38, 39, 40, 41, 42, 43] (by decide +kernel) (by decide +kernel)
set_option maxRecDepth 20000 in
theorem gX5_distribute_X5_no : GoodIn wsX5_distribute (wsV RX5 58 RX5 yX5_no wsX5_no) := goodIn_app (goodIn_of _ (by decide +kernel)) ggX5_distribute_X5_no
set_option maxRecDepth 20000 in
theorem ggX5_distribute_X5_formOf : GoodIn wsX5_distribute wsX5_formOf := goodIn_r _ [19] (by decide +kernel) (by decide +kernel)
set_option maxRecDepth 20000 in
theorem gX5_distribute_X5_formOf : GoodIn wsX5_distribute (va_wsS RX5 110 yX5_formOf wsX5_formOf) := goodIn_app (goodIn_of _ (by decide +kernel)) ggX5_distribute_X5_formOf
set_option maxRecDepth 20000 in
theorem ggX5_distribute_X5_all : GoodIn wsX5_distribute wsX5_all := goodIn_r _ [23, 2, 27, 28, 29, 30, 31, 32, 33, 34, 35, 36, 37, 38, 39, 40, 41, 42, 43] (by decide +kernel) (by decide +kernel)
set_option maxRecDepth 20000 in
theorem gX5_distribute_X5_all : GoodIn wsX5_distribute (wsV RX5 113 RX5 yX5_all wsX5_all) := goodIn_app (goodIn_of _ (by decide +kernel)) ggX5_distribute_X5_all
set_option maxRecDepth 20000 in
theorem ggX5_distribute_X5_caseOf : GoodIn wsX5_distribute wsX5_caseOf := goodIn_r _ [26] (by decide +kernel) (by decide +kernel)
set_option maxRecDepth 20000 in
theorem gX5_distribute_X5_caseOf : GoodIn wsX5_distribute (va_wsS RX5 77 yX5_caseOf wsX5_caseOf) := goodIn_app (goodIn_of _ (by decide +kernel)) ggX5_distribute_X5_caseOf
theorem dX5_distribute_0 : decode cX5_distribute 0 = .ok (.aload_n 0, 1) := by decide +kernel
theorem dX5_distribute_1 : decode cX5_distribute 1 = .ok (.iconst 0, 1) := by decide +kernel
theorem dX5_distribute_2 : decode cX5_distribute 2 = .ok (.putfield 38, 3) := by decide +kernel
theorem dX5_distribute_5 : decode cX5_distribute 5 = .ok (.aload_n 0, 1) := by decide +kernel
theorem dX5_distribute_6 : decode cX5_distribute 6 = .ok (.iload_n 1, 1) := by decide +kernel
theorem dX5_distribute_7 : decode cX5_distribute 7 = .ok (.invokevirtual 74, 3) := by decide +kernel
theorem dX5_distribute_10 : decode cX5_distribute 10 = .ok (.ifCond .ne 9, 3) := by decide +kernel
theorem dX5_distribute_13 : decode cX5_distribute 13 = .ok (.aload_n 0, 1) := by decide +kernel
theorem dX5_distribute_14 : decode cX5_distribute 14 = .ok (.iconst 1, 1) := by decide +kernel
theorem dX5_distribute_15 : decode cX5_distribute 15 = .ok (.invokevirtual 58, 3) := by decide +kernel
theorem dX5_distribute_18 : decode cX5_distribute 18 = .ok (.ireturn, 1) := by decide +kernel
theorem dX5_distribute_19 : decode cX5_distribute 19 = .ok (.aload_n 0, 1) := by decide +kernel
theorem dX5_distribute_20 : decode cX5_distribute 20 = .ok (.iload_n 1, 1) := by decide +kernel
theorem dX5_distribute_21 : decode cX5_distribute 21 = .ok (.invokestatic 110, 3) := by decide +kernel
theorem dX5_distribute_24 : decode cX5_distribute 24 = .ok (.invokevirtual 113, 3) := by decide +kernel
theorem dX5_distribute_27 : decode cX5_distribute 27 = .ok (.istore_n 2, 1) := by decide +kernel
theorem dX5_distribute_28 : decode cX5_distribute 28 = .ok (.iconst 0, 1) := by decide +kernel
theorem dX5_distribute_29 : decode cX5_distribute 29 = .ok (.istore_n 3, 1) := by decide +kernel
theorem dX5_distribute_30 : decode cX5_distribute 30 = .ok (.iload_n 3, 1) := by decide +kernel
theorem dX5_distribute_31 : decode cX5_distribute 31 = .ok (.sipush 290, 3) := by decide +kernel
theorem dX5_distribute_34 : decode cX5_distribute 34 = .ok (.if_icmp .ge 46, 3) := by decide +kernel
theorem dX5_distribute_37 : decode cX5_distribute 37 = .ok (.aload_n 0, 1) := by decide +kernel
theorem dX5_distribute_38 : decode cX5_distribute 38 = .ok (.getfield 13, 3) := by decide +kernel
theorem dX5_distribute_41 : decode cX5_distribute 41 = .ok (.iload_n 1, 1) := by decide +kernel
theorem dX5_distribute_42 : decode cX5_distribute 42 = .ok (.invokestatic 77, 3) := by decide +kernel
theorem dX5_distribute_45 : decode cX5_distribute 45 = .ok (.iload_n 3, 1) := by decide +kernel
theorem dX5_distribute_46 : decode cX5_distribute 46 = .ok (.iadd, 1) := by decide +kernel
theorem dX5_distribute_47 : decode cX5_distribute 47 = .ok (.dup2, 1) := by decide +kernel
theorem dX5_distribute_48 : decode cX5_distribute 48 = .ok (.iaload, 1) := by decide +kernel
theorem dX5_distribute_49 : decode cX5_distribute 49 = .ok (.aload_n 0, 1) := by decide +kernel
theorem dX5_distribute_50 : decode cX5_distribute 50 = .ok (.getfield 13, 3) := by decide +kernel
theorem dX5_distribute_53 : decode cX5_distribute 53 = .ok (.iload_n 1, 1) := by decide +kernel
theorem dX5_distribute_54 : decode cX5_distribute 54 = .ok (.invokestatic 110, 3) := by decide +kernel
theorem dX5_distribute_57 : decode cX5_distribute 57 = .ok (.iload_n 3, 1) := by decide +kernel
theorem dX5_distribute_58 : decode cX5_distribute 58 = .ok (.iadd, 1) := by decide +kernel
theorem dX5_distribute_59 : decode cX5_distribute 59 = .ok (.iaload, 1) := by decide +kernel
theorem dX5_distribute_60 : decode cX5_distribute 60 = .ok (.iadd, 1) := by decide +kernel
theorem dX5_distribute_61 : decode cX5_distribute 61 = .ok (.iastore, 1) := by decide +kernel
theorem dX5_distribute_62 : decode cX5_distribute 62 = .ok (.aload_n 0, 1) := by decide +kernel
theorem dX5_distribute_63 : decode cX5_distribute 63 = .ok (.getfield 13, 3) := by decide +kernel
theorem dX5_distribute_66 : decode cX5_distribute 66 = .ok (.iload_n 1, 1) := by decide +kernel
theorem dX5_distribute_67 : decode cX5_distribute 67 = .ok (.invokestatic 110, 3) := by decide +kernel
theorem dX5_distribute_70 : decode cX5_distribute 70 = .ok (.iload_n 3, 1) := by decide +kernel
theorem dX5_distribute_71 : decode cX5_distribute 71 = .ok (.iadd, 1) := by decide +kernel
theorem dX5_distribute_72 : decode cX5_distribute 72 = .ok (.iconst 0, 1) := by decide +kernel
theorem dX5_distribute_73 : decode cX5_distribute 73 = .ok (.iastore, 1) := by decide +kernel
theorem dX5_distribute_74 : decode cX5_distribute 74 = .ok (.iinc 3 1, 3) := by decide +kernel
theorem dX5_distribute_77 : decode cX5_distribute 77 = .ok (.goto (-47), 3) := by decide +kernel
theorem dX5_distribute_80 : decode cX5_distribute 80 = .ok (.aload_n 0, 1) := by decide +kernel
theorem dX5_distribute_81 : decode cX5_distribute 81 = .ok (.getfield 26, 3) := by decide +kernel
theorem dX5_distribute_84 : decode cX5_distribute 84 = .ok (.iload_n 1, 1) := by decide +kernel
theorem dX5_distribute_85 : decode cX5_distribute 85 = .ok (.iconst 0, 1) := by decide +kernel
theorem dX5_distribute_86 : decode cX5_distribute 86 = .ok (.iastore, 1) := by decide +kernel
theorem dX5_distribute_87 : decode cX5_distribute 87 = .ok (.iload_n 2, 1) := by decide +kernel
theorem dX5_distribute_88 : decode cX5_distribute 88 = .ok (.ireturn, 1) := by decide +kernel
set_option maxRecDepth 20000 in
theorem ggX5_pass_X5_isIn : GoodIn wsX5_pass wsX5_isIn := goodIn_r _ [8] (by decide +kernel) (by decide +kernel)
set_option maxRecDepth 20000 in
theorem gX5_pass_X5_isIn : GoodIn wsX5_pass (va_wsS RX5 44 yX5_isIn wsX5_isIn) := goodIn_app (goodIn_of _ (by decide +kernel)) ggX5_pass_X5_isIn
set_option maxRecDepth 20000 in
theorem ggX5_pass_X5_no : GoodIn wsX5_pass wsX5_no := goodIn_r _ [12, 1, 24, 25, 26, 27, 28, 29, 30, 31, 32, 33, 34, 35, 36, 37, 38, 39, 40] (by decide +kernel) (by decide +kernel)
set_option maxRecDepth 20000 in
theorem gX5_pass_X5_no : GoodIn wsX5_pass (wsV RX5 58 RX5 yX5_no wsX5_no) := goodIn_app (goodIn_of _ (by decide +kernel)) ggX5_pass_X5_no
set_option maxRecDepth 20000 in
theorem ggX5_pass_X5_caseOf : GoodIn wsX5_pass wsX5_caseOf := goodIn_r _ [15] (by decide +kernel) (by decide +kernel)
set_option maxRecDepth 20000 in
theorem gX5_pass_X5_caseOf : GoodIn wsX5_pass (va_wsS RX5 77 yX5_caseOf wsX5_caseOf) := goodIn_app (goodIn_of _ (by decide +kernel)) ggX5_pass_X5_caseOf
set_option maxRecDepth 20000 in
theorem ggX5_pass_X5_all : GoodIn wsX5_pass wsX5_all := goodIn_r _ [19, 20, 24, 25, 26, 27, 28, 29, 30, 31, 32, 33, 34, 35, 36, 37, 38, 39, 40] (by decide +kernel) (by decide +kernel)
set_option maxRecDepth 20000 in
theorem gX5_pass_X5_all : GoodIn wsX5_pass (wsV RX5 113 RX5 yX5_all wsX5_all) := goodIn_app (goodIn_of _ (by decide +kernel)) ggX5_pass_X5_all
set_option maxRecDepth 20000 in
theorem ggX5_pass_X5_formOf : GoodIn wsX5_pass wsX5_formOf := goodIn_r _ [23] (by decide +kernel) (by decide +kernel)
set_option maxRecDepth 20000 in
theorem gX5_pass_X5_formOf : GoodIn wsX5_pass (va_wsS RX5 110 yX5_formOf wsX5_formOf) := goodIn_app (goodIn_of _ (by decide +kernel)) ggX5_pass_X5_formOf
theorem dX5_pass_0 : decode cX5_pass 0 = .ok (.aload_n 0, 1) := by decide +kernel
theorem dX5_pass_1 : decode cX5_pass 1 = .ok (.iconst 0, 1) := by decide +kernel
theorem dX5_pass_2 : decode cX5_pass 2 = .ok (.putfield 38, 3) := by decide +kernel
theorem dX5_pass_5 : decode cX5_pass 5 = .ok (.iload_n 1, 1) := by decide +kernel
theorem dX5_pass_6 : decode cX5_pass 6 = .ok (.iconst 1, 1) := by decide +kernel
theorem dX5_pass_7 : decode cX5_pass 7 = .ok (.bipush 100, 2) := by decide +kernel
theorem dX5_pass_9 : decode cX5_pass 9 = .ok (.invokestatic 44, 3) := by decide +kernel
theorem dX5_pass_12 : decode cX5_pass 12 = .ok (.ifCond .ne 9, 3) := by decide +kernel
theorem dX5_pass_15 : decode cX5_pass 15 = .ok (.aload_n 0, 1) := by decide +kernel
theorem dX5_pass_16 : decode cX5_pass 16 = .ok (.iconst 1, 1) := by decide +kernel
theorem dX5_pass_17 : decode cX5_pass 17 = .ok (.invokevirtual 58, 3) := by decide +kernel
theorem dX5_pass_20 : decode cX5_pass 20 = .ok (.ireturn, 1) := by decide +kernel
theorem dX5_pass_21 : decode cX5_pass 21 = .ok (.iconst 0, 1) := by decide +kernel
theorem dX5_pass_22 : decode cX5_pass 22 = .ok (.istore_n 2, 1) := by decide +kernel
theorem dX5_pass_23 : decode cX5_pass 23 = .ok (.iconst 0, 1) := by decide +kernel
theorem dX5_pass_24 : decode cX5_pass 24 = .ok (.istore_n 3, 1) := by decide +kernel
theorem dX5_pass_25 : decode cX5_pass 25 = .ok (.iload_n 3, 1) := by decide +kernel
theorem dX5_pass_26 : decode cX5_pass 26 = .ok (.aload_n 0, 1) := by decide +kernel
theorem dX5_pass_27 : decode cX5_pass 27 = .ok (.getfield 41, 3) := by decide +kernel
theorem dX5_pass_30 : decode cX5_pass 30 = .ok (.if_icmp .ge 52, 3) := by decide +kernel
theorem dX5_pass_33 : decode cX5_pass 33 = .ok (.aload_n 0, 1) := by decide +kernel
theorem dX5_pass_34 : decode cX5_pass 34 = .ok (.getfield 20, 3) := by decide +kernel
theorem dX5_pass_37 : decode cX5_pass 37 = .ok (.iload_n 3, 1) := by decide +kernel
theorem dX5_pass_38 : decode cX5_pass 38 = .ok (.dup2, 1) := by decide +kernel
theorem dX5_pass_39 : decode cX5_pass 39 = .ok (.iaload, 1) := by decide +kernel
theorem dX5_pass_40 : decode cX5_pass 40 = .ok (.iload_n 1, 1) := by decide +kernel
theorem dX5_pass_41 : decode cX5_pass 41 = .ok (.aload_n 0, 1) := by decide +kernel
theorem dX5_pass_42 : decode cX5_pass 42 = .ok (.iload_n 3, 1) := by decide +kernel
theorem dX5_pass_43 : decode cX5_pass 43 = .ok (.invokestatic 77, 3) := by decide +kernel
theorem dX5_pass_46 : decode cX5_pass 46 = .ok (.invokevirtual 113, 3) := by decide +kernel
theorem dX5_pass_49 : decode cX5_pass 49 = .ok (.aload_n 0, 1) := by decide +kernel
theorem dX5_pass_50 : decode cX5_pass 50 = .ok (.iload_n 3, 1) := by decide +kernel
theorem dX5_pass_51 : decode cX5_pass 51 = .ok (.invokestatic 110, 3) := by decide +kernel
theorem dX5_pass_54 : decode cX5_pass 54 = .ok (.invokevirtual 113, 3) := by decide +kernel
theorem dX5_pass_57 : decode cX5_pass 57 = .ok (.iadd, 1) := by decide +kernel
theorem dX5_pass_58 : decode cX5_pass 58 = .ok (.bipush 9, 2) := by decide +kernel
theorem dX5_pass_60 : decode cX5_pass 60 = .ok (.iadd, 1) := by decide +kernel
theorem dX5_pass_61 : decode cX5_pass 61 = .ok (.bipush 10, 2) := by decide +kernel
theorem dX5_pass_63 : decode cX5_pass 63 = .ok (.idiv, 1) := by decide +kernel
theorem dX5_pass_64 : decode cX5_pass 64 = .ok (.imul, 1) := by decide +kernel
theorem dX5_pass_65 : decode cX5_pass 65 = .ok (.iadd, 1) := by decide +kernel
theorem dX5_pass_66 : decode cX5_pass 66 = .ok (.iastore, 1) := by decide +kernel
theorem dX5_pass_67 : decode cX5_pass 67 = .ok (.iload_n 2, 1) := by decide +kernel
theorem dX5_pass_68 : decode cX5_pass 68 = .ok (.aload_n 0, 1) := by decide +kernel
theorem dX5_pass_69 : decode cX5_pass 69 = .ok (.getfield 20, 3) := by decide +kernel
theorem dX5_pass_72 : decode cX5_pass 72 = .ok (.iload_n 3, 1) := by decide +kernel
theorem dX5_pass_73 : decode cX5_pass 73 = .ok (.iaload, 1) := by decide +kernel
theorem dX5_pass_74 : decode cX5_pass 74 = .ok (.iadd, 1) := by decide +kernel
theorem dX5_pass_75 : decode cX5_pass 75 = .ok (.istore_n 2, 1) := by decide +kernel
theorem dX5_pass_76 : decode cX5_pass 76 = .ok (.iinc 3 1, 3) := by decide +kernel
theorem dX5_pass_79 : decode cX5_pass 79 = .ok (.goto (-54), 3) := by decide +kernel
theorem dX5_pass_82 : decode cX5_pass 82 = .ok (.aload_n 0, 1) := by decide +kernel
theorem dX5_pass_83 : decode cX5_pass 83 = .ok (.dup, 1) := by decide +kernel
theorem dX5_pass_84 : decode cX5_pass 84 = .ok (.getfield 119, 3) := by decide +kernel
theorem dX5_pass_87 : decode cX5_pass 87 = .ok (.iload_n 1, 1) := by decide +kernel
theorem dX5_pass_88 : decode cX5_pass 88 = .ok (.iadd, 1) := by decide +kernel
theorem dX5_pass_89 : decode cX5_pass 89 = .ok (.putfield 119, 3) := by decide +kernel
theorem dX5_pass_92 : decode cX5_pass 92 = .ok (.iload_n 2, 1) := by decide +kernel
theorem dX5_pass_93 : decode cX5_pass 93 = .ok (.ireturn, 1) := by decide +kernel
set_option maxRecDepth 20000 in
theorem ggX5_sorts_X5_isPrinter : GoodIn wsX5_sorts wsX5_isPrinter := goodIn_r _ [7, 8, 9, 10, 6, 11, 22, 23, 24, 25, 26, 27, 28, 29, 30, 31, 32, 33, 34, 35, 36, 37, 38] (by decide +kernel) (by decide +kernel)
set_option maxRecDepth 20000 in
theorem gX5_sorts_X5_isPrinter : GoodIn wsX5_sorts (wsV RX5 74 RX5 yX5_isPrinter wsX5_isPrinter) := goodIn_app (goodIn_of _ (by decide +kernel)) ggX5_sorts_X5_isPrinter
set_option maxRecDepth 20000 in
theorem ggX5_sorts_X5_isSign : GoodIn wsX5_sorts wsX5_isSign := goodIn_r _ [14, 9, 10, 6, 11] (by decide +kernel) (by decide +kernel)
set_option maxRecDepth 20000 in
theorem gX5_sorts_X5_isSign : GoodIn wsX5_sorts (va_wsS RX5 54 yX5_isSign wsX5_isSign) := goodIn_app (goodIn_of _ (by decide +kernel)) ggX5_sorts_X5_isSign
set_option maxRecDepth 20000 in
theorem ggX5_sorts_X5_isIn : GoodIn wsX5_sorts wsX5_isIn := goodIn_r _ [11] (by decide +kernel) (by decide +kernel)
set_option maxRecDepth 20000 in
theorem gX5_sorts_X5_isIn : GoodIn wsX5_sorts (va_wsS RX5 44 yX5_isIn wsX5_isIn) := goodIn_app (goodIn_of _ (by decide +kernel)) ggX5_sorts_X5_isIn
set_option maxRecDepth 20000 in
theorem ggX5_sorts_X5_caseOf : GoodIn wsX5_sorts wsX5_caseOf := goodIn_r _ [17] (by decide +kernel) (by decide +kernel)
set_option maxRecDepth 20000 in
theorem gX5_sorts_X5_caseOf : GoodIn wsX5_sorts (va_wsS RX5 77 yX5_caseOf wsX5_caseOf) := goodIn_app (goodIn_of _ (by decide +kernel)) ggX5_sorts_X5_caseOf
set_option maxRecDepth 20000 in
theorem ggX5_sorts_X5_no : GoodIn wsX5_sorts wsX5_no := goodIn_r _ [21, 1, 22, 23, 24, 25, 26, 27, 28, 29, 30, 31, 32, 33, 34, 35, 36, 37, 38] (by decide +kernel) (by decide +kernel)
set_option maxRecDepth 20000 in
theorem gX5_sorts_X5_no : GoodIn wsX5_sorts (wsV RX5 58 RX5 yX5_no wsX5_no) := goodIn_app (goodIn_of _ (by decide +kernel)) ggX5_sorts_X5_no
theorem dX5_sorts_0 : decode cX5_sorts 0 = .ok (.aload_n 0, 1) := by decide +kernel
theorem dX5_sorts_1 : decode cX5_sorts 1 = .ok (.iconst 0, 1) := by decide +kernel
theorem dX5_sorts_2 : decode cX5_sorts 2 = .ok (.putfield 38, 3) := by decide +kernel
theorem dX5_sorts_5 : decode cX5_sorts 5 = .ok (.iload_n 1, 1) := by decide +kernel
theorem dX5_sorts_6 : decode cX5_sorts 6 = .ok (.iconst (-1), 1) := by decide +kernel
theorem dX5_sorts_7 : decode cX5_sorts 7 = .ok (.if_icmp .eq 11, 3) := by decide +kernel
theorem dX5_sorts_10 : decode cX5_sorts 10 = .ok (.aload_n 0, 1) := by decide +kernel
theorem dX5_sorts_11 : decode cX5_sorts 11 = .ok (.iload_n 1, 1) := by decide +kernel
theorem dX5_sorts_12 : decode cX5_sorts 12 = .ok (.invokevirtual 74, 3) := by decide +kernel
theorem dX5_sorts_15 : decode cX5_sorts 15 = .ok (.ifCond .eq 24, 3) := by decide +kernel
theorem dX5_sorts_18 : decode cX5_sorts 18 = .ok (.iload_n 2, 1) := by decide +kernel
theorem dX5_sorts_19 : decode cX5_sorts 19 = .ok (.invokestatic 54, 3) := by decide +kernel
theorem dX5_sorts_22 : decode cX5_sorts 22 = .ok (.ifCond .eq 17, 3) := by decide +kernel
theorem dX5_sorts_25 : decode cX5_sorts 25 = .ok (.iload_n 3, 1) := by decide +kernel
theorem dX5_sorts_26 : decode cX5_sorts 26 = .ok (.iconst 0, 1) := by decide +kernel
theorem dX5_sorts_27 : decode cX5_sorts 27 = .ok (.bipush 9, 2) := by decide +kernel
theorem dX5_sorts_29 : decode cX5_sorts 29 = .ok (.invokestatic 44, 3) := by decide +kernel
theorem dX5_sorts_32 : decode cX5_sorts 32 = .ok (.ifCond .eq 7, 3) := by decide +kernel
theorem dX5_sorts_35 : decode cX5_sorts 35 = .ok (.iconst 1, 1) := by decide +kernel
theorem dX5_sorts_36 : decode cX5_sorts 36 = .ok (.goto 4, 3) := by decide +kernel
theorem dX5_sorts_39 : decode cX5_sorts 39 = .ok (.iconst 0, 1) := by decide +kernel
theorem dX5_sorts_40 : decode cX5_sorts 40 = .ok (.istore 4, 2) := by decide +kernel
theorem dX5_sorts_42 : decode cX5_sorts 42 = .ok (.iload 4, 2) := by decide +kernel
theorem dX5_sorts_44 : decode cX5_sorts 44 = .ok (.ifCond .eq 22, 3) := by decide +kernel
theorem dX5_sorts_47 : decode cX5_sorts 47 = .ok (.aload_n 0, 1) := by decide +kernel
theorem dX5_sorts_48 : decode cX5_sorts 48 = .ok (.getfield 13, 3) := by decide +kernel
theorem dX5_sorts_51 : decode cX5_sorts 51 = .ok (.iload_n 1, 1) := by decide +kernel
theorem dX5_sorts_52 : decode cX5_sorts 52 = .ok (.invokestatic 77, 3) := by decide +kernel
theorem dX5_sorts_55 : decode cX5_sorts 55 = .ok (.bipush 10, 2) := by decide +kernel
theorem dX5_sorts_57 : decode cX5_sorts 57 = .ok (.iload_n 2, 1) := by decide +kernel
theorem dX5_sorts_58 : decode cX5_sorts 58 = .ok (.imul, 1) := by decide +kernel
theorem dX5_sorts_59 : decode cX5_sorts 59 = .ok (.iadd, 1) := by decide +kernel
theorem dX5_sorts_60 : decode cX5_sorts 60 = .ok (.iload_n 3, 1) := by decide +kernel
theorem dX5_sorts_61 : decode cX5_sorts 61 = .ok (.iadd, 1) := by decide +kernel
theorem dX5_sorts_62 : decode cX5_sorts 62 = .ok (.iaload, 1) := by decide +kernel
theorem dX5_sorts_63 : decode cX5_sorts 63 = .ok (.goto 8, 3) := by decide +kernel
theorem dX5_sorts_66 : decode cX5_sorts 66 = .ok (.aload_n 0, 1) := by decide +kernel
theorem dX5_sorts_67 : decode cX5_sorts 67 = .ok (.iconst 1, 1) := by decide +kernel
theorem dX5_sorts_68 : decode cX5_sorts 68 = .ok (.invokevirtual 58, 3) := by decide +kernel
theorem dX5_sorts_71 : decode cX5_sorts 71 = .ok (.ireturn, 1) := by decide +kernel
set_option maxRecDepth 20000 in
theorem ggX5_told_X5_caseOf : GoodIn wsX5_told wsX5_caseOf := goodIn_r _ [9] (by decide +kernel) (by decide +kernel)
set_option maxRecDepth 20000 in
theorem gX5_told_X5_caseOf : GoodIn wsX5_told (va_wsS RX5 77 yX5_caseOf wsX5_caseOf) := goodIn_app (goodIn_of _ (by decide +kernel)) ggX5_told_X5_caseOf
set_option maxRecDepth 20000 in
theorem ggX5_told_X5_all : GoodIn wsX5_told wsX5_all := goodIn_r _ [13, 14, 22, 23, 24, 25, 26, 27, 28, 29, 30, 31, 32, 33, 34, 35, 36, 37, 38] (by decide +kernel) (by decide +kernel)
set_option maxRecDepth 20000 in
theorem gX5_told_X5_all : GoodIn wsX5_told (wsV RX5 113 RX5 yX5_all wsX5_all) := goodIn_app (goodIn_of _ (by decide +kernel)) ggX5_told_X5_all
set_option maxRecDepth 20000 in
theorem ggX5_told_X5_formOf : GoodIn wsX5_told wsX5_formOf := goodIn_r _ [17] (by decide +kernel) (by decide +kernel)
set_option maxRecDepth 20000 in
theorem gX5_told_X5_formOf : GoodIn wsX5_told (va_wsS RX5 110 yX5_formOf wsX5_formOf) := goodIn_app (goodIn_of _ (by decide +kernel)) ggX5_told_X5_formOf
set_option maxRecDepth 20000 in
theorem ggX5_told_X5_worn : GoodIn wsX5_told wsX5_worn := goodIn_r _ [21, 14, 22, 23, 24, 25, 26, 27, 28, 29, 30, 31, 32, 33, 34, 35, 36, 37, 38] (by decide +kernel) (by decide +kernel)
set_option maxRecDepth 20000 in
theorem gX5_told_X5_worn : GoodIn wsX5_told (wsV RX5 122 RX5 yX5_worn wsX5_worn) := goodIn_app (goodIn_of _ (by decide +kernel)) ggX5_told_X5_worn
theorem dX5_told_0 : decode cX5_told 0 = .ok (.bipush 7, 2) := by decide +kernel
theorem dX5_told_2 : decode cX5_told 2 = .ok (.newarray .int, 2) := by decide +kernel
theorem dX5_told_4 : decode cX5_told 4 = .ok (.dup, 1) := by decide +kernel
theorem dX5_told_5 : decode cX5_told 5 = .ok (.iconst 0, 1) := by decide +kernel
theorem dX5_told_6 : decode cX5_told 6 = .ok (.aload_n 0, 1) := by decide +kernel
theorem dX5_told_7 : decode cX5_told 7 = .ok (.getfield 17, 3) := by decide +kernel
theorem dX5_told_10 : decode cX5_told 10 = .ok (.iload_n 1, 1) := by decide +kernel
theorem dX5_told_11 : decode cX5_told 11 = .ok (.iaload, 1) := by decide +kernel
theorem dX5_told_12 : decode cX5_told 12 = .ok (.iastore, 1) := by decide +kernel
theorem dX5_told_13 : decode cX5_told 13 = .ok (.dup, 1) := by decide +kernel
theorem dX5_told_14 : decode cX5_told 14 = .ok (.iconst 1, 1) := by decide +kernel
theorem dX5_told_15 : decode cX5_told 15 = .ok (.aload_n 0, 1) := by decide +kernel
theorem dX5_told_16 : decode cX5_told 16 = .ok (.getfield 20, 3) := by decide +kernel
theorem dX5_told_19 : decode cX5_told 19 = .ok (.iload_n 1, 1) := by decide +kernel
theorem dX5_told_20 : decode cX5_told 20 = .ok (.iaload, 1) := by decide +kernel
theorem dX5_told_21 : decode cX5_told 21 = .ok (.iastore, 1) := by decide +kernel
theorem dX5_told_22 : decode cX5_told 22 = .ok (.dup, 1) := by decide +kernel
theorem dX5_told_23 : decode cX5_told 23 = .ok (.iconst 2, 1) := by decide +kernel
theorem dX5_told_24 : decode cX5_told 24 = .ok (.aload_n 0, 1) := by decide +kernel
theorem dX5_told_25 : decode cX5_told 25 = .ok (.iload_n 1, 1) := by decide +kernel
theorem dX5_told_26 : decode cX5_told 26 = .ok (.invokestatic 77, 3) := by decide +kernel
theorem dX5_told_29 : decode cX5_told 29 = .ok (.invokevirtual 113, 3) := by decide +kernel
theorem dX5_told_32 : decode cX5_told 32 = .ok (.iastore, 1) := by decide +kernel
theorem dX5_told_33 : decode cX5_told 33 = .ok (.dup, 1) := by decide +kernel
theorem dX5_told_34 : decode cX5_told 34 = .ok (.iconst 3, 1) := by decide +kernel
theorem dX5_told_35 : decode cX5_told 35 = .ok (.aload_n 0, 1) := by decide +kernel
theorem dX5_told_36 : decode cX5_told 36 = .ok (.iload_n 1, 1) := by decide +kernel
theorem dX5_told_37 : decode cX5_told 37 = .ok (.invokestatic 110, 3) := by decide +kernel
theorem dX5_told_40 : decode cX5_told 40 = .ok (.invokevirtual 113, 3) := by decide +kernel
theorem dX5_told_43 : decode cX5_told 43 = .ok (.iastore, 1) := by decide +kernel
theorem dX5_told_44 : decode cX5_told 44 = .ok (.dup, 1) := by decide +kernel
theorem dX5_told_45 : decode cX5_told 45 = .ok (.iconst 4, 1) := by decide +kernel
theorem dX5_told_46 : decode cX5_told 46 = .ok (.aload_n 0, 1) := by decide +kernel
theorem dX5_told_47 : decode cX5_told 47 = .ok (.iload_n 1, 1) := by decide +kernel
theorem dX5_told_48 : decode cX5_told 48 = .ok (.invokestatic 110, 3) := by decide +kernel
theorem dX5_told_51 : decode cX5_told 51 = .ok (.invokevirtual 122, 3) := by decide +kernel
theorem dX5_told_54 : decode cX5_told 54 = .ok (.iastore, 1) := by decide +kernel
theorem dX5_told_55 : decode cX5_told 55 = .ok (.dup, 1) := by decide +kernel
theorem dX5_told_56 : decode cX5_told 56 = .ok (.iconst 5, 1) := by decide +kernel
theorem dX5_told_57 : decode cX5_told 57 = .ok (.aload_n 0, 1) := by decide +kernel
theorem dX5_told_58 : decode cX5_told 58 = .ok (.getfield 23, 3) := by decide +kernel
theorem dX5_told_61 : decode cX5_told 61 = .ok (.iload_n 1, 1) := by decide +kernel
theorem dX5_told_62 : decode cX5_told 62 = .ok (.iaload, 1) := by decide +kernel
theorem dX5_told_63 : decode cX5_told 63 = .ok (.iastore, 1) := by decide +kernel
theorem dX5_told_64 : decode cX5_told 64 = .ok (.dup, 1) := by decide +kernel
theorem dX5_told_65 : decode cX5_told 65 = .ok (.bipush 6, 2) := by decide +kernel
theorem dX5_told_67 : decode cX5_told 67 = .ok (.aload_n 0, 1) := by decide +kernel
theorem dX5_told_68 : decode cX5_told 68 = .ok (.getfield 26, 3) := by decide +kernel
theorem dX5_told_71 : decode cX5_told 71 = .ok (.iload_n 1, 1) := by decide +kernel
theorem dX5_told_72 : decode cX5_told 72 = .ok (.iaload, 1) := by decide +kernel
theorem dX5_told_73 : decode cX5_told 73 = .ok (.iastore, 1) := by decide +kernel
theorem dX5_told_74 : decode cX5_told 74 = .ok (.astore_n 3, 1) := by decide +kernel
theorem dX5_told_75 : decode cX5_told 75 = .ok (.aload_n 3, 1) := by decide +kernel
theorem dX5_told_76 : decode cX5_told 76 = .ok (.iload_n 2, 1) := by decide +kernel
theorem dX5_told_77 : decode cX5_told 77 = .ok (.iaload, 1) := by decide +kernel
theorem dX5_told_78 : decode cX5_told 78 = .ok (.ireturn, 1) := by decide +kernel
end
section
set_option maxRecDepth 20000 in
theorem ggX5_printer_X5_isPrinter : GoodIn wsX5_printer wsX5_isPrinter := goodIn_r _ [6, 7, 8, 9, 5, 10, 39, 40, 41, 42, 43, 44, 45, 46, 47, 48, 49, 50, 51, 52, 53, 54, 55] (by decide +kernel) (by decide +kernel)
set_option maxRecDepth 20000 in
theorem gX5_printer_X5_isPrinter : GoodIn wsX5_printer (wsV RX5 74 RX5 yX5_isPrinter wsX5_isPrinter) := goodIn_app (goodIn_of _ (by decide +kernel)) ggX5_printer_X5_isPrinter
set_option maxRecDepth 20000 in
theorem ggX5_printer_X5_isIn : GoodIn wsX5_printer wsX5_isIn := goodIn_r _ [10] (by decide +kernel) (by decide +kernel)
set_option maxRecDepth 20000 in
theorem gX5_printer_X5_isIn : GoodIn wsX5_printer (va_wsS RX5 44 yX5_isIn wsX5_isIn) := goodIn_app (goodIn_of _ (by decide +kernel)) ggX5_printer_X5_isIn
set_option maxRecDepth 20000 in
theorem ggX5_printer_X5_told : GoodIn wsX5_printer wsX5_told := goodIn_r _ [14, 15, 16, 17, 18, 19, 20, 21, 5, 22, 23, 24, 25, 26, 27, 28, 29, 30, 31, 32, 33, 34, 39, 40, 41, 42, 43, 44, 45, 46, 47, 48, 49, 50, 51, 52, 53, 54, 55] (by decide +kernel) (by decide +kernel)
set_option maxRecDepth 20000 in
theorem gX5_printer_X5_told : GoodIn wsX5_printer (wsV RX5 125 RX5 yX5_told wsX5_told) := goodIn_app (goodIn_of _ (by decide +kernel)) ggX5_printer_X5_told
set_option maxRecDepth 20000 in
theorem ggX5_printer_X5_no : GoodIn wsX5_printer wsX5_no := goodIn_r _ [38, 1, 39, 40, 41, 42, 43, 44, 45, 46, 47, 48, 49, 50, 51, 52, 53, 54, 55] (by decide +kernel) (by decide +kernel)
set_option maxRecDepth 20000 in
theorem gX5_printer_X5_no : GoodIn wsX5_printer (wsV RX5 58 RX5 yX5_no wsX5_no) := goodIn_app (goodIn_of _ (by decide +kernel)) ggX5_printer_X5_no
theorem dX5_printer_0 : decode cX5_printer 0 = .ok (.aload_n 0, 1) := by decide +kernel
theorem dX5_printer_1 : decode cX5_printer 1 = .ok (.iconst 0, 1) := by decide +kernel
theorem dX5_printer_2 : decode cX5_printer 2 = .ok (.putfield 38, 3) := by decide +kernel
theorem dX5_printer_5 : decode cX5_printer 5 = .ok (.aload_n 0, 1) := by decide +kernel
theorem dX5_printer_6 : decode cX5_printer 6 = .ok (.iload_n 1, 1) := by decide +kernel
theorem dX5_printer_7 : decode cX5_printer 7 = .ok (.invokevirtual 74, 3) := by decide +kernel
theorem dX5_printer_10 : decode cX5_printer 10 = .ok (.ifCond .eq 22, 3) := by decide +kernel
theorem dX5_printer_13 : decode cX5_printer 13 = .ok (.iload_n 2, 1) := by decide +kernel
theorem dX5_printer_14 : decode cX5_printer 14 = .ok (.iconst 0, 1) := by decide +kernel
theorem dX5_printer_15 : decode cX5_printer 15 = .ok (.bipush 6, 2) := by decide +kernel
theorem dX5_printer_17 : decode cX5_printer 17 = .ok (.invokestatic 44, 3) := by decide +kernel
theorem dX5_printer_20 : decode cX5_printer 20 = .ok (.ifCond .eq 12, 3) := by decide +kernel
theorem dX5_printer_23 : decode cX5_printer 23 = .ok (.aload_n 0, 1) := by decide +kernel
theorem dX5_printer_24 : decode cX5_printer 24 = .ok (.iload_n 1, 1) := by decide +kernel
theorem dX5_printer_25 : decode cX5_printer 25 = .ok (.iload_n 2, 1) := by decide +kernel
theorem dX5_printer_26 : decode cX5_printer 26 = .ok (.invokevirtual 125, 3) := by decide +kernel
theorem dX5_printer_29 : decode cX5_printer 29 = .ok (.goto 8, 3) := by decide +kernel
theorem dX5_printer_32 : decode cX5_printer 32 = .ok (.aload_n 0, 1) := by decide +kernel
theorem dX5_printer_33 : decode cX5_printer 33 = .ok (.iconst 1, 1) := by decide +kernel
theorem dX5_printer_34 : decode cX5_printer 34 = .ok (.invokevirtual 58, 3) := by decide +kernel
theorem dX5_printer_37 : decode cX5_printer 37 = .ok (.ireturn, 1) := by decide +kernel
set_option maxRecDepth 20000 in
theorem ggX5_counted_X5_all : GoodIn wsX5_counted wsX5_all := goodIn_r _ [13, 14, 15, 16, 17, 18, 19, 20, 21, 22, 23, 24, 25, 26, 27, 28, 29, 30, 31] (by decide +kernel) (by decide +kernel)
set_option maxRecDepth 20000 in
theorem gX5_counted_X5_all : GoodIn wsX5_counted (wsV RX5 113 RX5 yX5_all wsX5_all) := goodIn_app (goodIn_of _ (by decide +kernel)) ggX5_counted_X5_all
theorem dX5_counted_0 : decode cX5_counted 0 = .ok (.bipush 8, 2) := by decide +kernel
theorem dX5_counted_2 : decode cX5_counted 2 = .ok (.newarray .int, 2) := by decide +kernel
theorem dX5_counted_4 : decode cX5_counted 4 = .ok (.dup, 1) := by decide +kernel
theorem dX5_counted_5 : decode cX5_counted 5 = .ok (.iconst 0, 1) := by decide +kernel
theorem dX5_counted_6 : decode cX5_counted 6 = .ok (.aload_n 0, 1) := by decide +kernel
theorem dX5_counted_7 : decode cX5_counted 7 = .ok (.getfield 119, 3) := by decide +kernel
theorem dX5_counted_10 : decode cX5_counted 10 = .ok (.iastore, 1) := by decide +kernel
theorem dX5_counted_11 : decode cX5_counted 11 = .ok (.dup, 1) := by decide +kernel
theorem dX5_counted_12 : decode cX5_counted 12 = .ok (.iconst 1, 1) := by decide +kernel
theorem dX5_counted_13 : decode cX5_counted 13 = .ok (.aload_n 0, 1) := by decide +kernel
theorem dX5_counted_14 : decode cX5_counted 14 = .ok (.getfield 7, 3) := by decide +kernel
theorem dX5_counted_17 : decode cX5_counted 17 = .ok (.iastore, 1) := by decide +kernel
theorem dX5_counted_18 : decode cX5_counted 18 = .ok (.dup, 1) := by decide +kernel
theorem dX5_counted_19 : decode cX5_counted 19 = .ok (.iconst 2, 1) := by decide +kernel
theorem dX5_counted_20 : decode cX5_counted 20 = .ok (.aload_n 0, 1) := by decide +kernel
theorem dX5_counted_21 : decode cX5_counted 21 = .ok (.getfield 84, 3) := by decide +kernel
theorem dX5_counted_24 : decode cX5_counted 24 = .ok (.iastore, 1) := by decide +kernel
theorem dX5_counted_25 : decode cX5_counted 25 = .ok (.dup, 1) := by decide +kernel
theorem dX5_counted_26 : decode cX5_counted 26 = .ok (.iconst 3, 1) := by decide +kernel
theorem dX5_counted_27 : decode cX5_counted 27 = .ok (.aload_n 0, 1) := by decide +kernel
theorem dX5_counted_28 : decode cX5_counted 28 = .ok (.iconst 0, 1) := by decide +kernel
theorem dX5_counted_29 : decode cX5_counted 29 = .ok (.invokevirtual 113, 3) := by decide +kernel
theorem dX5_counted_32 : decode cX5_counted 32 = .ok (.iastore, 1) := by decide +kernel
theorem dX5_counted_33 : decode cX5_counted 33 = .ok (.dup, 1) := by decide +kernel
theorem dX5_counted_34 : decode cX5_counted 34 = .ok (.iconst 4, 1) := by decide +kernel
theorem dX5_counted_35 : decode cX5_counted 35 = .ok (.aload_n 0, 1) := by decide +kernel
theorem dX5_counted_36 : decode cX5_counted 36 = .ok (.getfield 41, 3) := by decide +kernel
theorem dX5_counted_39 : decode cX5_counted 39 = .ok (.iastore, 1) := by decide +kernel
theorem dX5_counted_40 : decode cX5_counted 40 = .ok (.dup, 1) := by decide +kernel
theorem dX5_counted_41 : decode cX5_counted 41 = .ok (.iconst 5, 1) := by decide +kernel
theorem dX5_counted_42 : decode cX5_counted 42 = .ok (.aload_n 0, 1) := by decide +kernel
theorem dX5_counted_43 : decode cX5_counted 43 = .ok (.getfield 68, 3) := by decide +kernel
theorem dX5_counted_46 : decode cX5_counted 46 = .ok (.iastore, 1) := by decide +kernel
theorem dX5_counted_47 : decode cX5_counted 47 = .ok (.dup, 1) := by decide +kernel
theorem dX5_counted_48 : decode cX5_counted 48 = .ok (.bipush 6, 2) := by decide +kernel
theorem dX5_counted_50 : decode cX5_counted 50 = .ok (.aload_n 0, 1) := by decide +kernel
theorem dX5_counted_51 : decode cX5_counted 51 = .ok (.getfield 116, 3) := by decide +kernel
theorem dX5_counted_54 : decode cX5_counted 54 = .ok (.iastore, 1) := by decide +kernel
theorem dX5_counted_55 : decode cX5_counted 55 = .ok (.dup, 1) := by decide +kernel
theorem dX5_counted_56 : decode cX5_counted 56 = .ok (.bipush 7, 2) := by decide +kernel
theorem dX5_counted_58 : decode cX5_counted 58 = .ok (.aload_n 0, 1) := by decide +kernel
theorem dX5_counted_59 : decode cX5_counted 59 = .ok (.getfield 71, 3) := by decide +kernel
theorem dX5_counted_62 : decode cX5_counted 62 = .ok (.iastore, 1) := by decide +kernel
theorem dX5_counted_63 : decode cX5_counted 63 = .ok (.astore_n 2, 1) := by decide +kernel
theorem dX5_counted_64 : decode cX5_counted 64 = .ok (.aload_n 2, 1) := by decide +kernel
theorem dX5_counted_65 : decode cX5_counted 65 = .ok (.iload_n 1, 1) := by decide +kernel
theorem dX5_counted_66 : decode cX5_counted 66 = .ok (.iaload, 1) := by decide +kernel
theorem dX5_counted_67 : decode cX5_counted 67 = .ok (.ireturn, 1) := by decide +kernel
set_option maxRecDepth 20000 in
theorem ggX5_count_X5_isIn : GoodIn wsX5_count wsX5_isIn := goodIn_r _ [5] (by decide +kernel) (by decide +kernel)
set_option maxRecDepth 20000 in
theorem gX5_count_X5_isIn : GoodIn wsX5_count (va_wsS RX5 44 yX5_isIn wsX5_isIn) := goodIn_app (goodIn_of _ (by decide +kernel)) ggX5_count_X5_isIn
set_option maxRecDepth 20000 in
theorem ggX5_count_X5_counted : GoodIn wsX5_count wsX5_counted := goodIn_r _ [9, 10, 11, 12, 13, 14, 15, 16, 17, 18, 19, 20, 4, 21, 22, 27, 28, 29, 30, 31, 32, 33, 34, 35, 36, 37, 38, 39, 40, 41, 42, 43] (by decide +kernel) (by decide +kernel)
set_option maxRecDepth 20000 in
theorem gX5_count_X5_counted : GoodIn wsX5_count (wsV RX5 128 RX5 yX5_counted wsX5_counted) := goodIn_app (goodIn_of _ (by decide +kernel)) ggX5_count_X5_counted
set_option maxRecDepth 20000 in
theorem ggX5_count_X5_no : GoodIn wsX5_count wsX5_no := goodIn_r _ [26, 1, 27, 28, 29, 30, 31, 32, 33, 34, 35, 36, 37, 38, 39, 40, 41, 42, 43] (by decide +kernel) (by decide +kernel)
set_option maxRecDepth 20000 in
theorem gX5_count_X5_no : GoodIn wsX5_count (wsV RX5 58 RX5 yX5_no wsX5_no) := goodIn_app (goodIn_of _ (by decide +kernel)) ggX5_count_X5_no
theorem dX5_count_0 : decode cX5_count 0 = .ok (.aload_n 0, 1) := by decide +kernel
theorem dX5_count_1 : decode cX5_count 1 = .ok (.iconst 0, 1) := by decide +kernel
theorem dX5_count_2 : decode cX5_count 2 = .ok (.putfield 38, 3) := by decide +kernel
theorem dX5_count_5 : decode cX5_count 5 = .ok (.iload_n 1, 1) := by decide +kernel
theorem dX5_count_6 : decode cX5_count 6 = .ok (.iconst 0, 1) := by decide +kernel
theorem dX5_count_7 : decode cX5_count 7 = .ok (.bipush 7, 2) := by decide +kernel
theorem dX5_count_9 : decode cX5_count 9 = .ok (.invokestatic 44, 3) := by decide +kernel
theorem dX5_count_12 : decode cX5_count 12 = .ok (.ifCond .eq 11, 3) := by decide +kernel
theorem dX5_count_15 : decode cX5_count 15 = .ok (.aload_n 0, 1) := by decide +kernel
theorem dX5_count_16 : decode cX5_count 16 = .ok (.iload_n 1, 1) := by decide +kernel
theorem dX5_count_17 : decode cX5_count 17 = .ok (.invokevirtual 128, 3) := by decide +kernel
theorem dX5_count_20 : decode cX5_count 20 = .ok (.goto 8, 3) := by decide +kernel
theorem dX5_count_23 : decode cX5_count 23 = .ok (.aload_n 0, 1) := by decide +kernel
theorem dX5_count_24 : decode cX5_count 24 = .ok (.iconst 1, 1) := by decide +kernel
theorem dX5_count_25 : decode cX5_count 25 = .ok (.invokevirtual 58, 3) := by decide +kernel
theorem dX5_count_28 : decode cX5_count 28 = .ok (.ireturn, 1) := by decide +kernel
set_option maxRecDepth 20000 in
theorem ggX5_takes_X5_isPrinter : GoodIn wsX5_takes wsX5_isPrinter := goodIn_r _ [6, 7, 8, 9, 5, 10, 47, 48, 49, 50, 51, 52, 53, 54, 55, 56, 57, 58, 59, 60, 61, 62, 63] (by decide +kernel) (by decide +kernel)
set_option maxRecDepth 20000 in
theorem gX5_takes_X5_isPrinter : GoodIn wsX5_takes (wsV RX5 74 RX5 yX5_isPrinter wsX5_isPrinter) := goodIn_app (goodIn_of _ (by decide +kernel)) ggX5_takes_X5_isPrinter
set_option maxRecDepth 20000 in
theorem ggX5_takes_X5_no : GoodIn wsX5_takes wsX5_no := goodIn_r _ [14, 1, 47, 48, 49, 50, 51, 52, 53, 54, 55, 56, 57, 58, 59, 60, 61, 62, 63] (by decide +kernel) (by decide +kernel)
set_option maxRecDepth 20000 in
theorem gX5_takes_X5_no : GoodIn wsX5_takes (wsV RX5 58 RX5 yX5_no wsX5_no) := goodIn_app (goodIn_of _ (by decide +kernel)) ggX5_takes_X5_no
set_option maxRecDepth 20000 in
theorem ggX5_takes_X5_isWord : GoodIn wsX5_takes wsX5_isWord := goodIn_r _ [18, 19, 20, 47, 48, 49, 50, 51, 52, 53, 54, 55, 56, 57, 58, 59, 60, 61, 62, 63] (by decide +kernel) (by decide +kernel)
set_option maxRecDepth 20000 in
theorem gX5_takes_X5_isWord : GoodIn wsX5_takes (wsV RX5 99 RX5 yX5_isWord wsX5_isWord) := goodIn_app (goodIn_of _ (by decide +kernel)) ggX5_takes_X5_isWord
set_option maxRecDepth 20000 in
theorem ggX5_takes_X5_look : GoodIn wsX5_takes wsX5_look := goodIn_r _ [24, 25, 26, 27, 5, 28, 29, 30, 31, 32, 33, 47, 48, 49, 50, 51, 52, 53, 54, 55, 56, 57, 58, 59, 60, 61, 62, 63] (by decide +kernel) (by decide +kernel)
set_option maxRecDepth 20000 in
theorem gX5_takes_X5_look : GoodIn wsX5_takes (wsV RX5 102 RX5 yX5_look wsX5_look) := goodIn_app (goodIn_of _ (by decide +kernel)) ggX5_takes_X5_look
set_option maxRecDepth 20000 in
theorem ggX5_takes_X5_compose : GoodIn wsX5_takes wsX5_compose := goodIn_r _ [37, 38, 19, 25, 20, 39, 40, 41, 42, 43, 44, 45, 5, 46, 47, 48, 49, 50, 51, 52, 53, 54, 55, 56, 57, 58, 59, 60, 61, 62, 63] (by decide +kernel) (by decide +kernel)
set_option maxRecDepth 20000 in
theorem gX5_takes_X5_compose : GoodIn wsX5_takes (wsV RX5 106 RX5 yX5_compose wsX5_compose) := goodIn_app (goodIn_of _ (by decide +kernel)) ggX5_takes_X5_compose
theorem dX5_takes_0 : decode cX5_takes 0 = .ok (.aload_n 0, 1) := by decide +kernel
theorem dX5_takes_1 : decode cX5_takes 1 = .ok (.iconst 0, 1) := by decide +kernel
theorem dX5_takes_2 : decode cX5_takes 2 = .ok (.putfield 38, 3) := by decide +kernel
theorem dX5_takes_5 : decode cX5_takes 5 = .ok (.aload_n 0, 1) := by decide +kernel
theorem dX5_takes_6 : decode cX5_takes 6 = .ok (.iload_n 1, 1) := by decide +kernel
theorem dX5_takes_7 : decode cX5_takes 7 = .ok (.invokevirtual 74, 3) := by decide +kernel
theorem dX5_takes_10 : decode cX5_takes 10 = .ok (.ifCond .ne 9, 3) := by decide +kernel
theorem dX5_takes_13 : decode cX5_takes 13 = .ok (.aload_n 0, 1) := by decide +kernel
theorem dX5_takes_14 : decode cX5_takes 14 = .ok (.iconst 1, 1) := by decide +kernel
theorem dX5_takes_15 : decode cX5_takes 15 = .ok (.invokevirtual 58, 3) := by decide +kernel
theorem dX5_takes_18 : decode cX5_takes 18 = .ok (.ireturn, 1) := by decide +kernel
theorem dX5_takes_19 : decode cX5_takes 19 = .ok (.aload_n 0, 1) := by decide +kernel
theorem dX5_takes_20 : decode cX5_takes 20 = .ok (.iload_n 2, 1) := by decide +kernel
theorem dX5_takes_21 : decode cX5_takes 21 = .ok (.invokevirtual 99, 3) := by decide +kernel
theorem dX5_takes_24 : decode cX5_takes 24 = .ok (.ifCond .ne 9, 3) := by decide +kernel
theorem dX5_takes_27 : decode cX5_takes 27 = .ok (.aload_n 0, 1) := by decide +kernel
theorem dX5_takes_28 : decode cX5_takes 28 = .ok (.iconst 2, 1) := by decide +kernel
theorem dX5_takes_29 : decode cX5_takes 29 = .ok (.invokevirtual 58, 3) := by decide +kernel
theorem dX5_takes_32 : decode cX5_takes 32 = .ok (.ireturn, 1) := by decide +kernel
theorem dX5_takes_33 : decode cX5_takes 33 = .ok (.aload_n 0, 1) := by decide +kernel
theorem dX5_takes_34 : decode cX5_takes 34 = .ok (.iload_n 1, 1) := by decide +kernel
theorem dX5_takes_35 : decode cX5_takes 35 = .ok (.invokevirtual 102, 3) := by decide +kernel
theorem dX5_takes_38 : decode cX5_takes 38 = .ok (.aload_n 0, 1) := by decide +kernel
theorem dX5_takes_39 : decode cX5_takes 39 = .ok (.invokevirtual 106, 3) := by decide +kernel
theorem dX5_takes_42 : decode cX5_takes 42 = .ok (.ireturn, 1) := by decide +kernel
set_option maxRecDepth 20000 in
theorem ggX5_lacks_X5_isPrinter : GoodIn wsX5_lacks wsX5_isPrinter := goodIn_r _ [8, 9, 10, 11, 7, 12, 29, 30, 31, 32, 33, 34, 35, 36, 37, 38, 39, 40, 41, 42, 43, 44, 45] (by decide +kernel) (by decide +kernel)
set_option maxRecDepth 20000 in
theorem gX5_lacks_X5_isPrinter : GoodIn wsX5_lacks (wsV RX5 74 RX5 yX5_isPrinter wsX5_isPrinter) := goodIn_app (goodIn_of _ (by decide +kernel)) ggX5_lacks_X5_isPrinter
set_option maxRecDepth 20000 in
theorem ggX5_lacks_X5_no : GoodIn wsX5_lacks wsX5_no := goodIn_r _ [16, 1, 29, 30, 31, 32, 33, 34, 35, 36, 37, 38, 39, 40, 41, 42, 43, 44, 45] (by decide +kernel) (by decide +kernel)
set_option maxRecDepth 20000 in
theorem gX5_lacks_X5_no : GoodIn wsX5_lacks (wsV RX5 58 RX5 yX5_no wsX5_no) := goodIn_app (goodIn_of _ (by decide +kernel)) ggX5_lacks_X5_no
set_option maxRecDepth 20000 in
theorem ggX5_lacks_X5_isWord : GoodIn wsX5_lacks wsX5_isWord := goodIn_r _ [20, 2, 3, 29, 30, 31, 32, 33, 34, 35, 36, 37, 38, 39, 40, 41, 42, 43, 44, 45] (by decide +kernel) (by decide +kernel)
set_option maxRecDepth 20000 in
theorem gX5_lacks_X5_isWord : GoodIn wsX5_lacks (wsV RX5 99 RX5 yX5_isWord wsX5_isWord) := goodIn_app (goodIn_of _ (by decide +kernel)) ggX5_lacks_X5_isWord
set_option maxRecDepth 20000 in
theorem ggX5_lacks_X5_caseOf : GoodIn wsX5_lacks wsX5_caseOf := goodIn_r _ [23] (by decide +kernel) (by decide +kernel)
set_option maxRecDepth 20000 in
theorem gX5_lacks_X5_caseOf : GoodIn wsX5_lacks (va_wsS RX5 77 yX5_caseOf wsX5_caseOf) := goodIn_app (goodIn_of _ (by decide +kernel)) ggX5_lacks_X5_caseOf
set_option maxRecDepth 20000 in
theorem ggX5_lacks_X5_many : GoodIn wsX5_lacks wsX5_many := goodIn_r _ [27, 28, 29, 30, 31, 32, 33, 34, 35, 36, 37, 38, 39, 40, 41, 42, 43, 44, 45] (by decide +kernel) (by decide +kernel)
set_option maxRecDepth 20000 in
theorem gX5_lacks_X5_many : GoodIn wsX5_lacks (wsV RX5 65 RX5 yX5_many wsX5_many) := goodIn_app (goodIn_of _ (by decide +kernel)) ggX5_lacks_X5_many
theorem dX5_lacks_0 : decode cX5_lacks 0 = .ok (.aload_n 0, 1) := by decide +kernel
theorem dX5_lacks_1 : decode cX5_lacks 1 = .ok (.iconst 0, 1) := by decide +kernel
theorem dX5_lacks_2 : decode cX5_lacks 2 = .ok (.putfield 38, 3) := by decide +kernel
theorem dX5_lacks_5 : decode cX5_lacks 5 = .ok (.aload_n 0, 1) := by decide +kernel
theorem dX5_lacks_6 : decode cX5_lacks 6 = .ok (.iload_n 1, 1) := by decide +kernel
theorem dX5_lacks_7 : decode cX5_lacks 7 = .ok (.invokevirtual 74, 3) := by decide +kernel
theorem dX5_lacks_10 : decode cX5_lacks 10 = .ok (.ifCond .ne 9, 3) := by decide +kernel
theorem dX5_lacks_13 : decode cX5_lacks 13 = .ok (.aload_n 0, 1) := by decide +kernel
theorem dX5_lacks_14 : decode cX5_lacks 14 = .ok (.iconst 1, 1) := by decide +kernel
theorem dX5_lacks_15 : decode cX5_lacks 15 = .ok (.invokevirtual 58, 3) := by decide +kernel
theorem dX5_lacks_18 : decode cX5_lacks 18 = .ok (.ireturn, 1) := by decide +kernel
theorem dX5_lacks_19 : decode cX5_lacks 19 = .ok (.aload_n 0, 1) := by decide +kernel
theorem dX5_lacks_20 : decode cX5_lacks 20 = .ok (.iload_n 2, 1) := by decide +kernel
theorem dX5_lacks_21 : decode cX5_lacks 21 = .ok (.invokevirtual 99, 3) := by decide +kernel
theorem dX5_lacks_24 : decode cX5_lacks 24 = .ok (.ifCond .ne 9, 3) := by decide +kernel
theorem dX5_lacks_27 : decode cX5_lacks 27 = .ok (.aload_n 0, 1) := by decide +kernel
theorem dX5_lacks_28 : decode cX5_lacks 28 = .ok (.iconst 2, 1) := by decide +kernel
theorem dX5_lacks_29 : decode cX5_lacks 29 = .ok (.invokevirtual 58, 3) := by decide +kernel
theorem dX5_lacks_32 : decode cX5_lacks 32 = .ok (.ireturn, 1) := by decide +kernel
theorem dX5_lacks_33 : decode cX5_lacks 33 = .ok (.iconst 0, 1) := by decide +kernel
theorem dX5_lacks_34 : decode cX5_lacks 34 = .ok (.istore_n 3, 1) := by decide +kernel
theorem dX5_lacks_35 : decode cX5_lacks 35 = .ok (.iconst (-1), 1) := by decide +kernel
theorem dX5_lacks_36 : decode cX5_lacks 36 = .ok (.istore 4, 2) := by decide +kernel
theorem dX5_lacks_38 : decode cX5_lacks 38 = .ok (.iconst 0, 1) := by decide +kernel
theorem dX5_lacks_39 : decode cX5_lacks 39 = .ok (.istore 5, 2) := by decide +kernel
theorem dX5_lacks_41 : decode cX5_lacks 41 = .ok (.iload 5, 2) := by decide +kernel
theorem dX5_lacks_43 : decode cX5_lacks 43 = .ok (.bipush 26, 2) := by decide +kernel
theorem dX5_lacks_45 : decode cX5_lacks 45 = .ok (.if_icmp .ge 78, 3) := by decide +kernel
theorem dX5_lacks_48 : decode cX5_lacks 48 = .ok (.aload_n 0, 1) := by decide +kernel
theorem dX5_lacks_49 : decode cX5_lacks 49 = .ok (.iload_n 1, 1) := by decide +kernel
theorem dX5_lacks_50 : decode cX5_lacks 50 = .ok (.invokestatic 77, 3) := by decide +kernel
theorem dX5_lacks_53 : decode cX5_lacks 53 = .ok (.iload 5, 2) := by decide +kernel
theorem dX5_lacks_55 : decode cX5_lacks 55 = .ok (.invokevirtual 65, 3) := by decide +kernel
theorem dX5_lacks_58 : decode cX5_lacks 58 = .ok (.ineg, 1) := by decide +kernel
theorem dX5_lacks_59 : decode cX5_lacks 59 = .ok (.istore 6, 2) := by decide +kernel
theorem dX5_lacks_61 : decode cX5_lacks 61 = .ok (.iconst 0, 1) := by decide +kernel
theorem dX5_lacks_62 : decode cX5_lacks 62 = .ok (.istore 7, 2) := by decide +kernel
theorem dX5_lacks_64 : decode cX5_lacks 64 = .ok (.iload 7, 2) := by decide +kernel
theorem dX5_lacks_66 : decode cX5_lacks 66 = .ok (.aload_n 0, 1) := by decide +kernel
theorem dX5_lacks_67 : decode cX5_lacks 67 = .ok (.getfield 87, 3) := by decide +kernel
theorem dX5_lacks_70 : decode cX5_lacks 70 = .ok (.if_icmp .ge 31, 3) := by decide +kernel
theorem dX5_lacks_73 : decode cX5_lacks 73 = .ok (.iload 6, 2) := by decide +kernel
theorem dX5_lacks_75 : decode cX5_lacks 75 = .ok (.aload_n 0, 1) := by decide +kernel
theorem dX5_lacks_76 : decode cX5_lacks 76 = .ok (.getfield 29, 3) := by decide +kernel
theorem dX5_lacks_79 : decode cX5_lacks 79 = .ok (.iload 7, 2) := by decide +kernel
theorem dX5_lacks_81 : decode cX5_lacks 81 = .ok (.iaload, 1) := by decide +kernel
theorem dX5_lacks_82 : decode cX5_lacks 82 = .ok (.iload 5, 2) := by decide +kernel
theorem dX5_lacks_84 : decode cX5_lacks 84 = .ok (.if_icmp .ne 7, 3) := by decide +kernel
theorem dX5_lacks_87 : decode cX5_lacks 87 = .ok (.iconst 1, 1) := by decide +kernel
theorem dX5_lacks_88 : decode cX5_lacks 88 = .ok (.goto 4, 3) := by decide +kernel
theorem dX5_lacks_91 : decode cX5_lacks 91 = .ok (.iconst 0, 1) := by decide +kernel
theorem dX5_lacks_92 : decode cX5_lacks 92 = .ok (.iadd, 1) := by decide +kernel
theorem dX5_lacks_93 : decode cX5_lacks 93 = .ok (.istore 6, 2) := by decide +kernel
theorem dX5_lacks_95 : decode cX5_lacks 95 = .ok (.iinc 7 1, 3) := by decide +kernel
theorem dX5_lacks_98 : decode cX5_lacks 98 = .ok (.goto (-34), 3) := by decide +kernel
theorem dX5_lacks_101 : decode cX5_lacks 101 = .ok (.iload 6, 2) := by decide +kernel
theorem dX5_lacks_103 : decode cX5_lacks 103 = .ok (.iload_n 3, 1) := by decide +kernel
theorem dX5_lacks_104 : decode cX5_lacks 104 = .ok (.if_icmp .gt 6, 3) := by decide +kernel
theorem dX5_lacks_107 : decode cX5_lacks 107 = .ok (.goto 10, 3) := by decide +kernel
theorem dX5_lacks_110 : decode cX5_lacks 110 = .ok (.iload 6, 2) := by decide +kernel
theorem dX5_lacks_112 : decode cX5_lacks 112 = .ok (.istore_n 3, 1) := by decide +kernel
theorem dX5_lacks_113 : decode cX5_lacks 113 = .ok (.iload 5, 2) := by decide +kernel
theorem dX5_lacks_115 : decode cX5_lacks 115 = .ok (.istore 4, 2) := by decide +kernel
theorem dX5_lacks_117 : decode cX5_lacks 117 = .ok (.iinc 5 1, 3) := by decide +kernel
theorem dX5_lacks_120 : decode cX5_lacks 120 = .ok (.goto (-79), 3) := by decide +kernel
theorem dX5_lacks_123 : decode cX5_lacks 123 = .ok (.iload 4, 2) := by decide +kernel
theorem dX5_lacks_125 : decode cX5_lacks 125 = .ok (.ireturn, 1) := by decide +kernel
set_option maxRecDepth 20000 in
theorem ggX5_bears_X5_isPrinter : GoodIn wsX5_bears wsX5_isPrinter := goodIn_r _ [11, 12, 13, 14, 10, 15, 23, 24, 25, 26, 27, 28, 29, 30, 31, 32, 33, 34, 35, 36, 37, 38, 39] (by decide +kernel) (by decide +kernel)
set_option maxRecDepth 20000 in
theorem gX5_bears_X5_isPrinter : GoodIn wsX5_bears (wsV RX5 74 RX5 yX5_isPrinter wsX5_isPrinter) := goodIn_app (goodIn_of _ (by decide +kernel)) ggX5_bears_X5_isPrinter
set_option maxRecDepth 20000 in
theorem ggX5_bears_X5_no : GoodIn wsX5_bears wsX5_no := goodIn_r _ [19, 1, 23, 24, 25, 26, 27, 28, 29, 30, 31, 32, 33, 34, 35, 36, 37, 38, 39] (by decide +kernel) (by decide +kernel)
set_option maxRecDepth 20000 in
theorem gX5_bears_X5_no : GoodIn wsX5_bears (wsV RX5 58 RX5 yX5_no wsX5_no) := goodIn_app (goodIn_of _ (by decide +kernel)) ggX5_bears_X5_no
set_option maxRecDepth 20000 in
theorem ggX5_bears_X5_formOf : GoodIn wsX5_bears wsX5_formOf := goodIn_r _ [22] (by decide +kernel) (by decide +kernel)
set_option maxRecDepth 20000 in
theorem gX5_bears_X5_formOf : GoodIn wsX5_bears (va_wsS RX5 110 yX5_formOf wsX5_formOf) := goodIn_app (goodIn_of _ (by decide +kernel)) ggX5_bears_X5_formOf
theorem dX5_bears_0 : decode cX5_bears 0 = .ok (.aload_n 0, 1) := by decide +kernel
theorem dX5_bears_1 : decode cX5_bears 1 = .ok (.iconst 0, 1) := by decide +kernel
theorem dX5_bears_2 : decode cX5_bears 2 = .ok (.putfield 38, 3) := by decide +kernel
theorem dX5_bears_5 : decode cX5_bears 5 = .ok (.aload_n 0, 1) := by decide +kernel
theorem dX5_bears_6 : decode cX5_bears 6 = .ok (.iload_n 1, 1) := by decide +kernel
theorem dX5_bears_7 : decode cX5_bears 7 = .ok (.invokevirtual 74, 3) := by decide +kernel
theorem dX5_bears_10 : decode cX5_bears 10 = .ok (.ifCond .ne 9, 3) := by decide +kernel
theorem dX5_bears_13 : decode cX5_bears 13 = .ok (.aload_n 0, 1) := by decide +kernel
theorem dX5_bears_14 : decode cX5_bears 14 = .ok (.iconst 1, 1) := by decide +kernel
theorem dX5_bears_15 : decode cX5_bears 15 = .ok (.invokevirtual 58, 3) := by decide +kernel
theorem dX5_bears_18 : decode cX5_bears 18 = .ok (.ireturn, 1) := by decide +kernel
theorem dX5_bears_19 : decode cX5_bears 19 = .ok (.iconst (-1), 1) := by decide +kernel
theorem dX5_bears_20 : decode cX5_bears 20 = .ok (.istore_n 2, 1) := by decide +kernel
theorem dX5_bears_21 : decode cX5_bears 21 = .ok (.iconst 0, 1) := by decide +kernel
theorem dX5_bears_22 : decode cX5_bears 22 = .ok (.istore_n 3, 1) := by decide +kernel
theorem dX5_bears_23 : decode cX5_bears 23 = .ok (.iload_n 3, 1) := by decide +kernel
theorem dX5_bears_24 : decode cX5_bears 24 = .ok (.sipush 290, 3) := by decide +kernel
theorem dX5_bears_27 : decode cX5_bears 27 = .ok (.if_icmp .ge 32, 3) := by decide +kernel
theorem dX5_bears_30 : decode cX5_bears 30 = .ok (.aload_n 0, 1) := by decide +kernel
theorem dX5_bears_31 : decode cX5_bears 31 = .ok (.getfield 13, 3) := by decide +kernel
theorem dX5_bears_34 : decode cX5_bears 34 = .ok (.iload_n 1, 1) := by decide +kernel
theorem dX5_bears_35 : decode cX5_bears 35 = .ok (.invokestatic 110, 3) := by decide +kernel
theorem dX5_bears_38 : decode cX5_bears 38 = .ok (.iload_n 3, 1) := by decide +kernel
theorem dX5_bears_39 : decode cX5_bears 39 = .ok (.iadd, 1) := by decide +kernel
theorem dX5_bears_40 : decode cX5_bears 40 = .ok (.iaload, 1) := by decide +kernel
theorem dX5_bears_41 : decode cX5_bears 41 = .ok (.ifCond .le 12, 3) := by decide +kernel
theorem dX5_bears_44 : decode cX5_bears 44 = .ok (.iload_n 2, 1) := by decide +kernel
theorem dX5_bears_45 : decode cX5_bears 45 = .ok (.iload_n 3, 1) := by decide +kernel
theorem dX5_bears_46 : decode cX5_bears 46 = .ok (.bipush 10, 2) := by decide +kernel
theorem dX5_bears_48 : decode cX5_bears 48 = .ok (.irem, 1) := by decide +kernel
theorem dX5_bears_49 : decode cX5_bears 49 = .ok (.invokestatic 131, 3) := by decide +kernel
theorem dX5_bears_52 : decode cX5_bears 52 = .ok (.istore_n 2, 1) := by decide +kernel
theorem dX5_bears_53 : decode cX5_bears 53 = .ok (.iinc 3 1, 3) := by decide +kernel
theorem dX5_bears_56 : decode cX5_bears 56 = .ok (.goto (-33), 3) := by decide +kernel
theorem dX5_bears_59 : decode cX5_bears 59 = .ok (.iload_n 2, 1) := by decide +kernel
theorem dX5_bears_60 : decode cX5_bears 60 = .ok (.iconst (-1), 1) := by decide +kernel
theorem dX5_bears_61 : decode cX5_bears 61 = .ok (.if_icmp .ne 7, 3) := by decide +kernel
theorem dX5_bears_64 : decode cX5_bears 64 = .ok (.iconst 0, 1) := by decide +kernel
theorem dX5_bears_65 : decode cX5_bears 65 = .ok (.goto 12, 3) := by decide +kernel
theorem dX5_bears_68 : decode cX5_bears 68 = .ok (.bipush 50, 2) := by decide +kernel
theorem dX5_bears_70 : decode cX5_bears 70 = .ok (.bipush 10, 2) := by decide +kernel
theorem dX5_bears_72 : decode cX5_bears 72 = .ok (.iload_n 2, 1) := by decide +kernel
theorem dX5_bears_73 : decode cX5_bears 73 = .ok (.isub, 1) := by decide +kernel
theorem dX5_bears_74 : decode cX5_bears 74 = .ok (.imul, 1) := by decide +kernel
theorem dX5_bears_75 : decode cX5_bears 75 = .ok (.iconst 1, 1) := by decide +kernel
theorem dX5_bears_76 : decode cX5_bears 76 = .ok (.isub, 1) := by decide +kernel
theorem dX5_bears_77 : decode cX5_bears 77 = .ok (.ireturn, 1) := by decide +kernel
set_option maxRecDepth 20000 in
theorem ggX5_saves_X5_isWord : GoodIn wsX5_saves wsX5_isWord := goodIn_r _ [9, 10, 11, 28, 29, 30, 31, 32, 33, 34, 35, 36, 37, 38, 39, 40, 41, 42, 43, 44] (by decide +kernel) (by decide +kernel)
set_option maxRecDepth 20000 in
theorem gX5_saves_X5_isWord : GoodIn wsX5_saves (wsV RX5 99 RX5 yX5_isWord wsX5_isWord) := goodIn_app (goodIn_of _ (by decide +kernel)) ggX5_saves_X5_isWord
set_option maxRecDepth 20000 in
theorem ggX5_saves_X5_no : GoodIn wsX5_saves wsX5_no := goodIn_r _ [15, 1, 28, 29, 30, 31, 32, 33, 34, 35, 36, 37, 38, 39, 40, 41, 42, 43, 44] (by decide +kernel) (by decide +kernel)
set_option maxRecDepth 20000 in
theorem gX5_saves_X5_no : GoodIn wsX5_saves (wsV RX5 58 RX5 yX5_no wsX5_no) := goodIn_app (goodIn_of _ (by decide +kernel)) ggX5_saves_X5_no
set_option maxRecDepth 20000 in
theorem ggX5_saves_J7_fill_53178 : GoodIn wsX5_saves wsJ7_fill_53178 := goodIn_r _ [19] (by decide +kernel) (by decide +kernel)
set_option maxRecDepth 20000 in
theorem gX5_saves_J7_fill_53178 : GoodIn wsX5_saves (va_wsS RX5 90 yJ7_fill_53178 wsJ7_fill_53178) := goodIn_app (goodIn_of _ (by decide +kernel)) ggX5_saves_J7_fill_53178
set_option maxRecDepth 20000 in
theorem ggX5_saves_X5_compose : GoodIn wsX5_saves wsX5_compose := goodIn_r _ [23, 4, 10, 3, 11, 16, 17, 18, 19, 24, 25, 26, 8, 27, 28, 29, 30, 31, 32, 33, 34, 35, 36, 37, 38, 39, 40, 41, 42, 43, 44] (by decide +kernel) (by decide +kernel)
set_option maxRecDepth 20000 in
theorem gX5_saves_X5_compose : GoodIn wsX5_saves (wsV RX5 106 RX5 yX5_compose wsX5_compose) := goodIn_app (goodIn_of _ (by decide +kernel)) ggX5_saves_X5_compose
theorem dX5_saves_0 : decode cX5_saves 0 = .ok (.aload_n 0, 1) := by decide +kernel
theorem dX5_saves_1 : decode cX5_saves 1 = .ok (.iconst 0, 1) := by decide +kernel
theorem dX5_saves_2 : decode cX5_saves 2 = .ok (.putfield 38, 3) := by decide +kernel
theorem dX5_saves_5 : decode cX5_saves 5 = .ok (.aload_n 0, 1) := by decide +kernel
theorem dX5_saves_6 : decode cX5_saves 6 = .ok (.iload_n 1, 1) := by decide +kernel
theorem dX5_saves_7 : decode cX5_saves 7 = .ok (.invokevirtual 99, 3) := by decide +kernel
theorem dX5_saves_10 : decode cX5_saves 10 = .ok (.ifCond .eq 11, 3) := by decide +kernel
theorem dX5_saves_13 : decode cX5_saves 13 = .ok (.aload_n 0, 1) := by decide +kernel
theorem dX5_saves_14 : decode cX5_saves 14 = .ok (.iload_n 2, 1) := by decide +kernel
theorem dX5_saves_15 : decode cX5_saves 15 = .ok (.invokevirtual 99, 3) := by decide +kernel
theorem dX5_saves_18 : decode cX5_saves 18 = .ok (.ifCond .ne 9, 3) := by decide +kernel
theorem dX5_saves_21 : decode cX5_saves 21 = .ok (.aload_n 0, 1) := by decide +kernel
theorem dX5_saves_22 : decode cX5_saves 22 = .ok (.iconst 1, 1) := by decide +kernel
theorem dX5_saves_23 : decode cX5_saves 23 = .ok (.invokevirtual 58, 3) := by decide +kernel
theorem dX5_saves_26 : decode cX5_saves 26 = .ok (.ireturn, 1) := by decide +kernel
theorem dX5_saves_27 : decode cX5_saves 27 = .ok (.bipush 29, 2) := by decide +kernel
theorem dX5_saves_29 : decode cX5_saves 29 = .ok (.newarray .int, 2) := by decide +kernel
theorem dX5_saves_31 : decode cX5_saves 31 = .ok (.astore_n 3, 1) := by decide +kernel
theorem dX5_saves_32 : decode cX5_saves 32 = .ok (.iconst 0, 1) := by decide +kernel
theorem dX5_saves_33 : decode cX5_saves 33 = .ok (.istore 4, 2) := by decide +kernel
theorem dX5_saves_35 : decode cX5_saves 35 = .ok (.iload 4, 2) := by decide +kernel
theorem dX5_saves_37 : decode cX5_saves 37 = .ok (.iconst 2, 1) := by decide +kernel
theorem dX5_saves_38 : decode cX5_saves 38 = .ok (.if_icmp .ge 69, 3) := by decide +kernel
theorem dX5_saves_41 : decode cX5_saves 41 = .ok (.aload_n 0, 1) := by decide +kernel
theorem dX5_saves_42 : decode cX5_saves 42 = .ok (.iload 4, 2) := by decide +kernel
theorem dX5_saves_44 : decode cX5_saves 44 = .ok (.ifCond .ne 7, 3) := by decide +kernel
theorem dX5_saves_47 : decode cX5_saves 47 = .ok (.iload_n 1, 1) := by decide +kernel
theorem dX5_saves_48 : decode cX5_saves 48 = .ok (.goto 4, 3) := by decide +kernel
theorem dX5_saves_51 : decode cX5_saves 51 = .ok (.iload_n 2, 1) := by decide +kernel
theorem dX5_saves_52 : decode cX5_saves 52 = .ok (.invokevirtual 99, 3) := by decide +kernel
theorem dX5_saves_55 : decode cX5_saves 55 = .ok (.pop, 1) := by decide +kernel
theorem dX5_saves_56 : decode cX5_saves 56 = .ok (.aload_n 0, 1) := by decide +kernel
theorem dX5_saves_57 : decode cX5_saves 57 = .ok (.getfield 35, 3) := by decide +kernel
theorem dX5_saves_60 : decode cX5_saves 60 = .ok (.bipush 9, 2) := by decide +kernel
theorem dX5_saves_62 : decode cX5_saves 62 = .ok (.invokestatic 90, 3) := by decide +kernel
theorem dX5_saves_65 : decode cX5_saves 65 = .ok (.aload_n 0, 1) := by decide +kernel
theorem dX5_saves_66 : decode cX5_saves 66 = .ok (.invokevirtual 106, 3) := by decide +kernel
theorem dX5_saves_69 : decode cX5_saves 69 = .ok (.pop, 1) := by decide +kernel
theorem dX5_saves_70 : decode cX5_saves 70 = .ok (.bipush 26, 2) := by decide +kernel
theorem dX5_saves_72 : decode cX5_saves 72 = .ok (.istore 5, 2) := by decide +kernel
theorem dX5_saves_74 : decode cX5_saves 74 = .ok (.iload 5, 2) := by decide +kernel
theorem dX5_saves_76 : decode cX5_saves 76 = .ok (.bipush 29, 2) := by decide +kernel
theorem dX5_saves_78 : decode cX5_saves 78 = .ok (.if_icmp .ge 23, 3) := by decide +kernel
theorem dX5_saves_81 : decode cX5_saves 81 = .ok (.aload_n 3, 1) := by decide +kernel
theorem dX5_saves_82 : decode cX5_saves 82 = .ok (.iload 5, 2) := by decide +kernel
theorem dX5_saves_84 : decode cX5_saves 84 = .ok (.dup2, 1) := by decide +kernel
theorem dX5_saves_85 : decode cX5_saves 85 = .ok (.iaload, 1) := by decide +kernel
theorem dX5_saves_86 : decode cX5_saves 86 = .ok (.aload_n 0, 1) := by decide +kernel
theorem dX5_saves_87 : decode cX5_saves 87 = .ok (.getfield 32, 3) := by decide +kernel
theorem dX5_saves_90 : decode cX5_saves 90 = .ok (.iload 5, 2) := by decide +kernel
theorem dX5_saves_92 : decode cX5_saves 92 = .ok (.iaload, 1) := by decide +kernel
theorem dX5_saves_93 : decode cX5_saves 93 = .ok (.iadd, 1) := by decide +kernel
theorem dX5_saves_94 : decode cX5_saves 94 = .ok (.iastore, 1) := by decide +kernel
theorem dX5_saves_95 : decode cX5_saves 95 = .ok (.iinc 5 1, 3) := by decide +kernel
theorem dX5_saves_98 : decode cX5_saves 98 = .ok (.goto (-24), 3) := by decide +kernel
theorem dX5_saves_101 : decode cX5_saves 101 = .ok (.iinc 4 1, 3) := by decide +kernel
theorem dX5_saves_104 : decode cX5_saves 104 = .ok (.goto (-69), 3) := by decide +kernel
theorem dX5_saves_107 : decode cX5_saves 107 = .ok (.iconst (-1), 1) := by decide +kernel
theorem dX5_saves_108 : decode cX5_saves 108 = .ok (.istore 4, 2) := by decide +kernel
theorem dX5_saves_110 : decode cX5_saves 110 = .ok (.bipush 26, 2) := by decide +kernel
theorem dX5_saves_112 : decode cX5_saves 112 = .ok (.istore 5, 2) := by decide +kernel
theorem dX5_saves_114 : decode cX5_saves 114 = .ok (.iload 5, 2) := by decide +kernel
theorem dX5_saves_116 : decode cX5_saves 116 = .ok (.bipush 29, 2) := by decide +kernel
theorem dX5_saves_118 : decode cX5_saves 118 = .ok (.if_icmp .ge 34, 3) := by decide +kernel
theorem dX5_saves_121 : decode cX5_saves 121 = .ok (.aload_n 3, 1) := by decide +kernel
theorem dX5_saves_122 : decode cX5_saves 122 = .ok (.iload 5, 2) := by decide +kernel
theorem dX5_saves_124 : decode cX5_saves 124 = .ok (.iaload, 1) := by decide +kernel
theorem dX5_saves_125 : decode cX5_saves 125 = .ok (.iload 4, 2) := by decide +kernel
theorem dX5_saves_127 : decode cX5_saves 127 = .ok (.iconst (-1), 1) := by decide +kernel
theorem dX5_saves_128 : decode cX5_saves 128 = .ok (.if_icmp .ne 7, 3) := by decide +kernel
theorem dX5_saves_131 : decode cX5_saves 131 = .ok (.iconst 0, 1) := by decide +kernel
theorem dX5_saves_132 : decode cX5_saves 132 = .ok (.goto 7, 3) := by decide +kernel
theorem dX5_saves_135 : decode cX5_saves 135 = .ok (.aload_n 3, 1) := by decide +kernel
theorem dX5_saves_136 : decode cX5_saves 136 = .ok (.iload 4, 2) := by decide +kernel
theorem dX5_saves_138 : decode cX5_saves 138 = .ok (.iaload, 1) := by decide +kernel
theorem dX5_saves_139 : decode cX5_saves 139 = .ok (.if_icmp .le 7, 3) := by decide +kernel
theorem dX5_saves_142 : decode cX5_saves 142 = .ok (.iload 5, 2) := by decide +kernel
theorem dX5_saves_144 : decode cX5_saves 144 = .ok (.istore 4, 2) := by decide +kernel
theorem dX5_saves_146 : decode cX5_saves 146 = .ok (.iinc 5 1, 3) := by decide +kernel
theorem dX5_saves_149 : decode cX5_saves 149 = .ok (.goto (-35), 3) := by decide +kernel
theorem dX5_saves_152 : decode cX5_saves 152 = .ok (.iload 4, 2) := by decide +kernel
theorem dX5_saves_154 : decode cX5_saves 154 = .ok (.ireturn, 1) := by decide +kernel
set_option maxRecDepth 20000 in
theorem ggX5_times_X5_isPrinter : GoodIn wsX5_times wsX5_isPrinter := goodIn_r _ [6, 7, 8, 9, 5, 10, 47, 48, 49, 50, 51, 52, 53, 54, 55, 56, 57, 58, 59, 60, 61, 62, 63] (by decide +kernel) (by decide +kernel)
set_option maxRecDepth 20000 in
theorem gX5_times_X5_isPrinter : GoodIn wsX5_times (wsV RX5 74 RX5 yX5_isPrinter wsX5_isPrinter) := goodIn_app (goodIn_of _ (by decide +kernel)) ggX5_times_X5_isPrinter
set_option maxRecDepth 20000 in
theorem ggX5_times_X5_no : GoodIn wsX5_times wsX5_no := goodIn_r _ [14, 1, 47, 48, 49, 50, 51, 52, 53, 54, 55, 56, 57, 58, 59, 60, 61, 62, 63] (by decide +kernel) (by decide +kernel)
set_option maxRecDepth 20000 in
theorem gX5_times_X5_no : GoodIn wsX5_times (wsV RX5 58 RX5 yX5_no wsX5_no) := goodIn_app (goodIn_of _ (by decide +kernel)) ggX5_times_X5_no
set_option maxRecDepth 20000 in
theorem ggX5_times_X5_isWord : GoodIn wsX5_times wsX5_isWord := goodIn_r _ [18, 19, 20, 47, 48, 49, 50, 51, 52, 53, 54, 55, 56, 57, 58, 59, 60, 61, 62, 63] (by decide +kernel) (by decide +kernel)
set_option maxRecDepth 20000 in
theorem gX5_times_X5_isWord : GoodIn wsX5_times (wsV RX5 99 RX5 yX5_isWord wsX5_isWord) := goodIn_app (goodIn_of _ (by decide +kernel)) ggX5_times_X5_isWord
set_option maxRecDepth 20000 in
theorem ggX5_times_X5_look : GoodIn wsX5_times wsX5_look := goodIn_r _ [24, 25, 26, 27, 5, 28, 29, 30, 31, 32, 33, 47, 48, 49, 50, 51, 52, 53, 54, 55, 56, 57, 58, 59, 60, 61, 62, 63] (by decide +kernel) (by decide +kernel)
set_option maxRecDepth 20000 in
theorem gX5_times_X5_look : GoodIn wsX5_times (wsV RX5 102 RX5 yX5_look wsX5_look) := goodIn_app (goodIn_of _ (by decide +kernel)) ggX5_times_X5_look
set_option maxRecDepth 20000 in
theorem ggX5_times_X5_compose : GoodIn wsX5_times wsX5_compose := goodIn_r _ [37, 38, 19, 25, 20, 39, 40, 41, 42, 43, 44, 45, 5, 46, 47, 48, 49, 50, 51, 52, 53, 54, 55, 56, 57, 58, 59, 60, 61, 62, 63] (by decide +kernel) (by decide +kernel)
set_option maxRecDepth 20000 in
theorem gX5_times_X5_compose : GoodIn wsX5_times (wsV RX5 106 RX5 yX5_compose wsX5_compose) := goodIn_app (goodIn_of _ (by decide +kernel)) ggX5_times_X5_compose
theorem dX5_times_0 : decode cX5_times 0 = .ok (.aload_n 0, 1) := by decide +kernel
theorem dX5_times_1 : decode cX5_times 1 = .ok (.iconst 0, 1) := by decide +kernel
theorem dX5_times_2 : decode cX5_times 2 = .ok (.putfield 38, 3) := by decide +kernel
theorem dX5_times_5 : decode cX5_times 5 = .ok (.aload_n 0, 1) := by decide +kernel
theorem dX5_times_6 : decode cX5_times 6 = .ok (.iload_n 1, 1) := by decide +kernel
theorem dX5_times_7 : decode cX5_times 7 = .ok (.invokevirtual 74, 3) := by decide +kernel
theorem dX5_times_10 : decode cX5_times 10 = .ok (.ifCond .ne 9, 3) := by decide +kernel
theorem dX5_times_13 : decode cX5_times 13 = .ok (.aload_n 0, 1) := by decide +kernel
theorem dX5_times_14 : decode cX5_times 14 = .ok (.iconst 1, 1) := by decide +kernel
theorem dX5_times_15 : decode cX5_times 15 = .ok (.invokevirtual 58, 3) := by decide +kernel
theorem dX5_times_18 : decode cX5_times 18 = .ok (.ireturn, 1) := by decide +kernel
theorem dX5_times_19 : decode cX5_times 19 = .ok (.aload_n 0, 1) := by decide +kernel
theorem dX5_times_20 : decode cX5_times 20 = .ok (.iload_n 2, 1) := by decide +kernel
theorem dX5_times_21 : decode cX5_times 21 = .ok (.invokevirtual 99, 3) := by decide +kernel
theorem dX5_times_24 : decode cX5_times 24 = .ok (.ifCond .ne 9, 3) := by decide +kernel
theorem dX5_times_27 : decode cX5_times 27 = .ok (.aload_n 0, 1) := by decide +kernel
theorem dX5_times_28 : decode cX5_times 28 = .ok (.iconst 2, 1) := by decide +kernel
theorem dX5_times_29 : decode cX5_times 29 = .ok (.invokevirtual 58, 3) := by decide +kernel
theorem dX5_times_32 : decode cX5_times 32 = .ok (.ireturn, 1) := by decide +kernel
theorem dX5_times_33 : decode cX5_times 33 = .ok (.aload_n 0, 1) := by decide +kernel
theorem dX5_times_34 : decode cX5_times 34 = .ok (.iload_n 1, 1) := by decide +kernel
theorem dX5_times_35 : decode cX5_times 35 = .ok (.invokevirtual 102, 3) := by decide +kernel
theorem dX5_times_38 : decode cX5_times 38 = .ok (.iconst 0, 1) := by decide +kernel
theorem dX5_times_39 : decode cX5_times 39 = .ok (.istore_n 3, 1) := by decide +kernel
theorem dX5_times_40 : decode cX5_times 40 = .ok (.aload_n 0, 1) := by decide +kernel
theorem dX5_times_41 : decode cX5_times 41 = .ok (.invokevirtual 106, 3) := by decide +kernel
theorem dX5_times_44 : decode cX5_times 44 = .ok (.iconst (-1), 1) := by decide +kernel
theorem dX5_times_45 : decode cX5_times 45 = .ok (.if_icmp .eq 9, 3) := by decide +kernel
theorem dX5_times_48 : decode cX5_times 48 = .ok (.iinc 3 1, 3) := by decide +kernel
theorem dX5_times_51 : decode cX5_times 51 = .ok (.goto (-11), 3) := by decide +kernel
theorem dX5_times_54 : decode cX5_times 54 = .ok (.iload_n 3, 1) := by decide +kernel
theorem dX5_times_55 : decode cX5_times 55 = .ok (.ireturn, 1) := by decide +kernel
set_option maxRecDepth 20000 in
theorem ggX5_mean_X5_all : GoodIn wsX5_mean wsX5_all := goodIn_r _ [6, 7, 12, 13, 14, 15, 16, 17, 18, 19, 20, 21, 22, 23, 24, 25, 26, 27, 28] (by decide +kernel) (by decide +kernel)
set_option maxRecDepth 20000 in
theorem gX5_mean_X5_all : GoodIn wsX5_mean (wsV RX5 113 RX5 yX5_all wsX5_all) := goodIn_app (goodIn_of _ (by decide +kernel)) ggX5_mean_X5_all
set_option maxRecDepth 20000 in
theorem ggX5_mean_X5_worn : GoodIn wsX5_mean wsX5_worn := goodIn_r _ [11, 7, 12, 13, 14, 15, 16, 17, 18, 19, 20, 21, 22, 23, 24, 25, 26, 27, 28] (by decide +kernel) (by decide +kernel)
set_option maxRecDepth 20000 in
theorem gX5_mean_X5_worn : GoodIn wsX5_mean (wsV RX5 122 RX5 yX5_worn wsX5_worn) := goodIn_app (goodIn_of _ (by decide +kernel)) ggX5_mean_X5_worn
theorem dX5_mean_0 : decode cX5_mean 0 = .ok (.aload_n 0, 1) := by decide +kernel
theorem dX5_mean_1 : decode cX5_mean 1 = .ok (.iconst 0, 1) := by decide +kernel
theorem dX5_mean_2 : decode cX5_mean 2 = .ok (.putfield 38, 3) := by decide +kernel
theorem dX5_mean_5 : decode cX5_mean 5 = .ok (.aload_n 0, 1) := by decide +kernel
theorem dX5_mean_6 : decode cX5_mean 6 = .ok (.iconst 0, 1) := by decide +kernel
theorem dX5_mean_7 : decode cX5_mean 7 = .ok (.invokevirtual 113, 3) := by decide +kernel
theorem dX5_mean_10 : decode cX5_mean 10 = .ok (.istore_n 1, 1) := by decide +kernel
theorem dX5_mean_11 : decode cX5_mean 11 = .ok (.iload_n 1, 1) := by decide +kernel
theorem dX5_mean_12 : decode cX5_mean 12 = .ok (.ifCond .ne 7, 3) := by decide +kernel
theorem dX5_mean_15 : decode cX5_mean 15 = .ok (.dconst 0, 1) := by decide +kernel
theorem dX5_mean_16 : decode cX5_mean 16 = .ok (.goto 12, 3) := by decide +kernel
theorem dX5_mean_19 : decode cX5_mean 19 = .ok (.aload_n 0, 1) := by decide +kernel
theorem dX5_mean_20 : decode cX5_mean 20 = .ok (.iconst 0, 1) := by decide +kernel
theorem dX5_mean_21 : decode cX5_mean 21 = .ok (.invokevirtual 122, 3) := by decide +kernel
theorem dX5_mean_24 : decode cX5_mean 24 = .ok (.i2d, 1) := by decide +kernel
theorem dX5_mean_25 : decode cX5_mean 25 = .ok (.iload_n 1, 1) := by decide +kernel
theorem dX5_mean_26 : decode cX5_mean 26 = .ok (.i2d, 1) := by decide +kernel
theorem dX5_mean_27 : decode cX5_mean 27 = .ok (.ddiv, 1) := by decide +kernel
theorem dX5_mean_28 : decode cX5_mean 28 = .ok (.dreturn, 1) := by decide +kernel
set_option maxRecDepth 20000 in
theorem ggX5_digest_X5_counted : GoodIn wsX5_digest wsX5_counted := goodIn_r _ [10, 11, 12, 13, 14, 4, 15, 16, 17, 18, 19, 20, 9, 21, 5, 40, 41, 42, 43, 44, 45, 46, 47, 48, 49, 50, 51, 52, 53, 54, 55, 56] (by decide +kernel) (by decide +kernel)
set_option maxRecDepth 20000 in
theorem gX5_digest_X5_counted : GoodIn wsX5_digest (wsV RX5 128 RX5 yX5_counted wsX5_counted) := goodIn_app (goodIn_of _ (by decide +kernel)) ggX5_digest_X5_counted
set_option maxRecDepth 20000 in
theorem ggX5_digest_X5_told : GoodIn wsX5_digest wsX5_told := goodIn_r _ [25, 11, 26, 27, 28, 29, 30, 31, 9, 32, 18, 19, 20, 21, 5, 33, 34, 35, 36, 37, 38, 39, 40, 41, 42, 43, 44, 45, 46, 47, 48, 49, 50, 51, 52, 53, 54, 55, 56] (by decide +kernel) (by decide +kernel)
set_option maxRecDepth 20000 in
theorem gX5_digest_X5_told : GoodIn wsX5_digest (wsV RX5 125 RX5 yX5_told wsX5_told) := goodIn_app (goodIn_of _ (by decide +kernel)) ggX5_digest_X5_told
theorem dX5_digest_0 : decode cX5_digest 0 = .ok (.aload_n 0, 1) := by decide +kernel
theorem dX5_digest_1 : decode cX5_digest 1 = .ok (.iconst 0, 1) := by decide +kernel
theorem dX5_digest_2 : decode cX5_digest 2 = .ok (.putfield 38, 3) := by decide +kernel
theorem dX5_digest_5 : decode cX5_digest 5 = .ok (.ldc2_w 134, 3) := by decide +kernel
theorem dX5_digest_8 : decode cX5_digest 8 = .ok (.lstore_n 1, 1) := by decide +kernel
theorem dX5_digest_9 : decode cX5_digest 9 = .ok (.iconst 0, 1) := by decide +kernel
theorem dX5_digest_10 : decode cX5_digest 10 = .ok (.istore_n 3, 1) := by decide +kernel
theorem dX5_digest_11 : decode cX5_digest 11 = .ok (.iload_n 3, 1) := by decide +kernel
theorem dX5_digest_12 : decode cX5_digest 12 = .ok (.bipush 7, 2) := by decide +kernel
theorem dX5_digest_14 : decode cX5_digest 14 = .ok (.if_icmp .gt 22, 3) := by decide +kernel
theorem dX5_digest_17 : decode cX5_digest 17 = .ok (.lload_n 1, 1) := by decide +kernel
theorem dX5_digest_18 : decode cX5_digest 18 = .ok (.ldc2_w 136, 3) := by decide +kernel
theorem dX5_digest_21 : decode cX5_digest 21 = .ok (.lmul, 1) := by decide +kernel
theorem dX5_digest_22 : decode cX5_digest 22 = .ok (.aload_n 0, 1) := by decide +kernel
theorem dX5_digest_23 : decode cX5_digest 23 = .ok (.iload_n 3, 1) := by decide +kernel
theorem dX5_digest_24 : decode cX5_digest 24 = .ok (.invokevirtual 128, 3) := by decide +kernel
theorem dX5_digest_27 : decode cX5_digest 27 = .ok (.i2l, 1) := by decide +kernel
theorem dX5_digest_28 : decode cX5_digest 28 = .ok (.ladd, 1) := by decide +kernel
theorem dX5_digest_29 : decode cX5_digest 29 = .ok (.lstore_n 1, 1) := by decide +kernel
theorem dX5_digest_30 : decode cX5_digest 30 = .ok (.iinc 3 1, 3) := by decide +kernel
theorem dX5_digest_33 : decode cX5_digest 33 = .ok (.goto (-22), 3) := by decide +kernel
theorem dX5_digest_36 : decode cX5_digest 36 = .ok (.iconst 0, 1) := by decide +kernel
theorem dX5_digest_37 : decode cX5_digest 37 = .ok (.istore_n 3, 1) := by decide +kernel
theorem dX5_digest_38 : decode cX5_digest 38 = .ok (.iload_n 3, 1) := by decide +kernel
theorem dX5_digest_39 : decode cX5_digest 39 = .ok (.sipush 290, 3) := by decide +kernel
theorem dX5_digest_42 : decode cX5_digest 42 = .ok (.iconst 1, 1) := by decide +kernel
theorem dX5_digest_43 : decode cX5_digest 43 = .ok (.aload_n 0, 1) := by decide +kernel
theorem dX5_digest_44 : decode cX5_digest 44 = .ok (.getfield 41, 3) := by decide +kernel
theorem dX5_digest_47 : decode cX5_digest 47 = .ok (.iadd, 1) := by decide +kernel
theorem dX5_digest_48 : decode cX5_digest 48 = .ok (.imul, 1) := by decide +kernel
theorem dX5_digest_49 : decode cX5_digest 49 = .ok (.if_icmp .ge 23, 3) := by decide +kernel
theorem dX5_digest_52 : decode cX5_digest 52 = .ok (.lload_n 1, 1) := by decide +kernel
theorem dX5_digest_53 : decode cX5_digest 53 = .ok (.ldc2_w 136, 3) := by decide +kernel
theorem dX5_digest_56 : decode cX5_digest 56 = .ok (.lmul, 1) := by decide +kernel
theorem dX5_digest_57 : decode cX5_digest 57 = .ok (.aload_n 0, 1) := by decide +kernel
theorem dX5_digest_58 : decode cX5_digest 58 = .ok (.getfield 13, 3) := by decide +kernel
theorem dX5_digest_61 : decode cX5_digest 61 = .ok (.iload_n 3, 1) := by decide +kernel
theorem dX5_digest_62 : decode cX5_digest 62 = .ok (.iaload, 1) := by decide +kernel
theorem dX5_digest_63 : decode cX5_digest 63 = .ok (.i2l, 1) := by decide +kernel
theorem dX5_digest_64 : decode cX5_digest 64 = .ok (.ladd, 1) := by decide +kernel
theorem dX5_digest_65 : decode cX5_digest 65 = .ok (.lstore_n 1, 1) := by decide +kernel
theorem dX5_digest_66 : decode cX5_digest 66 = .ok (.iinc 3 1, 3) := by decide +kernel
theorem dX5_digest_69 : decode cX5_digest 69 = .ok (.goto (-31), 3) := by decide +kernel
theorem dX5_digest_72 : decode cX5_digest 72 = .ok (.iconst 0, 1) := by decide +kernel
theorem dX5_digest_73 : decode cX5_digest 73 = .ok (.istore_n 3, 1) := by decide +kernel
theorem dX5_digest_74 : decode cX5_digest 74 = .ok (.iload_n 3, 1) := by decide +kernel
theorem dX5_digest_75 : decode cX5_digest 75 = .ok (.aload_n 0, 1) := by decide +kernel
theorem dX5_digest_76 : decode cX5_digest 76 = .ok (.getfield 41, 3) := by decide +kernel
theorem dX5_digest_79 : decode cX5_digest 79 = .ok (.if_icmp .ge 40, 3) := by decide +kernel
theorem dX5_digest_82 : decode cX5_digest 82 = .ok (.iconst 0, 1) := by decide +kernel
theorem dX5_digest_83 : decode cX5_digest 83 = .ok (.istore 4, 2) := by decide +kernel
theorem dX5_digest_85 : decode cX5_digest 85 = .ok (.iload 4, 2) := by decide +kernel
theorem dX5_digest_87 : decode cX5_digest 87 = .ok (.bipush 6, 2) := by decide +kernel
theorem dX5_digest_89 : decode cX5_digest 89 = .ok (.if_icmp .gt 24, 3) := by decide +kernel
theorem dX5_digest_92 : decode cX5_digest 92 = .ok (.lload_n 1, 1) := by decide +kernel
theorem dX5_digest_93 : decode cX5_digest 93 = .ok (.ldc2_w 136, 3) := by decide +kernel
theorem dX5_digest_96 : decode cX5_digest 96 = .ok (.lmul, 1) := by decide +kernel
theorem dX5_digest_97 : decode cX5_digest 97 = .ok (.aload_n 0, 1) := by decide +kernel
theorem dX5_digest_98 : decode cX5_digest 98 = .ok (.iload_n 3, 1) := by decide +kernel
theorem dX5_digest_99 : decode cX5_digest 99 = .ok (.iload 4, 2) := by decide +kernel
theorem dX5_digest_101 : decode cX5_digest 101 = .ok (.invokevirtual 125, 3) := by decide +kernel
theorem dX5_digest_104 : decode cX5_digest 104 = .ok (.i2l, 1) := by decide +kernel
theorem dX5_digest_105 : decode cX5_digest 105 = .ok (.ladd, 1) := by decide +kernel
theorem dX5_digest_106 : decode cX5_digest 106 = .ok (.lstore_n 1, 1) := by decide +kernel
theorem dX5_digest_107 : decode cX5_digest 107 = .ok (.iinc 4 1, 3) := by decide +kernel
theorem dX5_digest_110 : decode cX5_digest 110 = .ok (.goto (-25), 3) := by decide +kernel
theorem dX5_digest_113 : decode cX5_digest 113 = .ok (.iinc 3 1, 3) := by decide +kernel
theorem dX5_digest_116 : decode cX5_digest 116 = .ok (.goto (-42), 3) := by decide +kernel
theorem dX5_digest_119 : decode cX5_digest 119 = .ok (.lload_n 1, 1) := by decide +kernel
theorem dX5_digest_120 : decode cX5_digest 120 = .ok (.lreturn, 1) := by decide +kernel
theorem dJ9_max_7cf53_0 : decode cJ9_max_7cf53 0 = .ok (.iload_n 0, 1) := by decide +kernel
theorem dJ9_max_7cf53_1 : decode cJ9_max_7cf53 1 = .ok (.iload_n 1, 1) := by decide +kernel
theorem dJ9_max_7cf53_2 : decode cJ9_max_7cf53 2 = .ok (.if_icmp .lt 7, 3) := by decide +kernel
theorem dJ9_max_7cf53_5 : decode cJ9_max_7cf53 5 = .ok (.iload_n 0, 1) := by decide +kernel
theorem dJ9_max_7cf53_6 : decode cJ9_max_7cf53 6 = .ok (.goto 4, 3) := by decide +kernel
theorem dJ9_max_7cf53_9 : decode cJ9_max_7cf53 9 = .ok (.iload_n 1, 1) := by decide +kernel
theorem dJ9_max_7cf53_10 : decode cJ9_max_7cf53 10 = .ok (.ireturn, 1) := by decide +kernel
theorem dJ9_min_7cf53_0 : decode cJ9_min_7cf53 0 = .ok (.iload_n 0, 1) := by decide +kernel
theorem dJ9_min_7cf53_1 : decode cJ9_min_7cf53 1 = .ok (.iload_n 1, 1) := by decide +kernel
theorem dJ9_min_7cf53_2 : decode cJ9_min_7cf53 2 = .ok (.if_icmp .gt 7, 3) := by decide +kernel
theorem dJ9_min_7cf53_5 : decode cJ9_min_7cf53 5 = .ok (.iload_n 0, 1) := by decide +kernel
theorem dJ9_min_7cf53_6 : decode cJ9_min_7cf53 6 = .ok (.goto 4, 3) := by decide +kernel
theorem dJ9_min_7cf53_9 : decode cJ9_min_7cf53 9 = .ok (.iload_n 1, 1) := by decide +kernel
theorem dJ9_min_7cf53_10 : decode cJ9_min_7cf53 10 = .ok (.ireturn, 1) := by decide +kernel
theorem dJ7_fill_53178_0 : decode cJ7_fill_53178 0 = .ok (.iconst 0, 1) := by decide +kernel
theorem dJ7_fill_53178_1 : decode cJ7_fill_53178 1 = .ok (.istore_n 2, 1) := by decide +kernel
theorem dJ7_fill_53178_2 : decode cJ7_fill_53178 2 = .ok (.aload_n 0, 1) := by decide +kernel
theorem dJ7_fill_53178_3 : decode cJ7_fill_53178 3 = .ok (.arraylength, 1) := by decide +kernel
theorem dJ7_fill_53178_4 : decode cJ7_fill_53178 4 = .ok (.istore_n 3, 1) := by decide +kernel
theorem dJ7_fill_53178_5 : decode cJ7_fill_53178 5 = .ok (.iload_n 2, 1) := by decide +kernel
theorem dJ7_fill_53178_6 : decode cJ7_fill_53178 6 = .ok (.iload_n 3, 1) := by decide +kernel
theorem dJ7_fill_53178_7 : decode cJ7_fill_53178 7 = .ok (.if_icmp .ge 13, 3) := by decide +kernel
theorem dJ7_fill_53178_10 : decode cJ7_fill_53178 10 = .ok (.aload_n 0, 1) := by decide +kernel
theorem dJ7_fill_53178_11 : decode cJ7_fill_53178 11 = .ok (.iload_n 2, 1) := by decide +kernel
theorem dJ7_fill_53178_12 : decode cJ7_fill_53178 12 = .ok (.iload_n 1, 1) := by decide +kernel
theorem dJ7_fill_53178_13 : decode cJ7_fill_53178 13 = .ok (.iastore, 1) := by decide +kernel
theorem dJ7_fill_53178_14 : decode cJ7_fill_53178 14 = .ok (.iinc 2 1, 3) := by decide +kernel
theorem dJ7_fill_53178_17 : decode cJ7_fill_53178 17 = .ok (.goto (-12), 3) := by decide +kernel
theorem dJ7_fill_53178_20 : decode cJ7_fill_53178 20 = .ok (.return_, 1) := by decide +kernel
end
section
set_option maxRecDepth 20000 in
theorem ggL_cast_X4_cast : GoodIn wsL_cast wsX4_cast := goodIn_ca (goodIn_ca (goodIn_ca (goodIn_r _ [8, 9, 10, 11, 12, 13, 14, 15, 7, 16, 17, 18, 19, 20, 21, 22, 23, 24, 25, 26, 27, 28, 29, 30, 31, 32, 33, 34, 35, 36, 37, 38, 39, 40, 41, 42, 43, 44, 45, 46, 47, 48, 49, 50, 51, 52] (by decide +kernel) (by decide +kernel)) (goodIn_sub (fun _ h => List.mem_cons_of_mem _ (List.mem_append_left _ (List.mem_append_left _ (List.mem_append_right _ h)))) (by decide +kernel))) (goodIn_sub (fun _ h => List.mem_cons_of_mem _ (List.mem_append_left _ (List.mem_append_right _ h))) (by decide +kernel))) (goodIn_sub (fun _ h => List.mem_cons_of_mem _ (List.mem_append_right _ h)) (by decide +kernel))
set_option maxRecDepth 20000 in
theorem gL_cast_X4_cast : GoodIn wsL_cast (wsV RL 7 RX4 yX4_cast wsX4_cast) := goodIn_app (goodIn_of _ (by decide +kernel)) ggL_cast_X4_cast
theorem dL_cast_0 : decode cL_cast 0 = .ok (.aload_n 3, 1) := by decide +kernel
theorem dL_cast_1 : decode cL_cast 1 = .ok (.iconst 0, 1) := by decide +kernel
theorem dL_cast_2 : decode cL_cast 2 = .ok (.aload_n 0, 1) := by decide +kernel
theorem dL_cast_3 : decode cL_cast 3 = .ok (.iload_n 1, 1) := by decide +kernel
theorem dL_cast_4 : decode cL_cast 4 = .ok (.iload_n 2, 1) := by decide +kernel
theorem dL_cast_5 : decode cL_cast 5 = .ok (.invokevirtual 7, 3) := by decide +kernel
theorem dL_cast_8 : decode cL_cast 8 = .ok (.i2l, 1) := by decide +kernel
theorem dL_cast_9 : decode cL_cast 9 = .ok (.lastore, 1) := by decide +kernel
theorem dL_cast_10 : decode cL_cast 10 = .ok (.goto 15, 3) := by decide +kernel
theorem dL_cast_13 : decode cL_cast 13 = .ok (.astore 4, 2) := by decide +kernel
theorem dL_cast_15 : decode cL_cast 15 = .ok (.iconst 1, 1) := by decide +kernel
theorem dL_cast_16 : decode cL_cast 16 = .ok (.ireturn, 1) := by decide +kernel
theorem dL_cast_17 : decode cL_cast 17 = .ok (.astore 4, 2) := by decide +kernel
theorem dL_cast_19 : decode cL_cast 19 = .ok (.iconst 2, 1) := by decide +kernel
theorem dL_cast_20 : decode cL_cast 20 = .ok (.ireturn, 1) := by decide +kernel
theorem dL_cast_21 : decode cL_cast 21 = .ok (.astore 4, 2) := by decide +kernel
theorem dL_cast_23 : decode cL_cast 23 = .ok (.iconst 3, 1) := by decide +kernel
theorem dL_cast_24 : decode cL_cast 24 = .ok (.ireturn, 1) := by decide +kernel
theorem dL_cast_25 : decode cL_cast 25 = .ok (.iconst 0, 1) := by decide +kernel
theorem dL_cast_26 : decode cL_cast 26 = .ok (.ireturn, 1) := by decide +kernel
set_option maxRecDepth 20000 in
theorem ggL_melt_X4_melt : GoodIn wsL_melt wsX4_melt := goodIn_ca (goodIn_ca (goodIn_r _ [7, 8, 9, 10, 11, 12, 13, 14, 15, 16, 17, 18, 19, 20, 21, 22, 23, 24, 25, 6, 26, 27, 28, 29, 30, 31, 32, 33, 34, 35, 36, 37, 38, 39, 40, 41, 42, 43, 44, 45, 46, 47, 48, 49, 50] (by decide +kernel) (by decide +kernel)) (goodIn_sub (fun _ h => List.mem_cons_of_mem _ (List.mem_append_left _ (List.mem_append_right _ h))) (by decide +kernel))) (goodIn_sub (fun _ h => List.mem_cons_of_mem _ (List.mem_append_right _ h)) (by decide +kernel))
set_option maxRecDepth 20000 in
theorem gL_melt_X4_melt : GoodIn wsL_melt (wsV RL 19 RX4 yX4_melt wsX4_melt) := goodIn_app (goodIn_of _ (by decide +kernel)) ggL_melt_X4_melt
theorem dL_melt_0 : decode cL_melt 0 = .ok (.aload_n 2, 1) := by decide +kernel
theorem dL_melt_1 : decode cL_melt 1 = .ok (.iconst 0, 1) := by decide +kernel
theorem dL_melt_2 : decode cL_melt 2 = .ok (.aload_n 0, 1) := by decide +kernel
theorem dL_melt_3 : decode cL_melt 3 = .ok (.iload_n 1, 1) := by decide +kernel
theorem dL_melt_4 : decode cL_melt 4 = .ok (.invokevirtual 19, 3) := by decide +kernel
theorem dL_melt_7 : decode cL_melt 7 = .ok (.i2l, 1) := by decide +kernel
theorem dL_melt_8 : decode cL_melt 8 = .ok (.lastore, 1) := by decide +kernel
theorem dL_melt_9 : decode cL_melt 9 = .ok (.goto 9, 3) := by decide +kernel
theorem dL_melt_12 : decode cL_melt 12 = .ok (.astore_n 3, 1) := by decide +kernel
theorem dL_melt_13 : decode cL_melt 13 = .ok (.iconst 1, 1) := by decide +kernel
theorem dL_melt_14 : decode cL_melt 14 = .ok (.ireturn, 1) := by decide +kernel
theorem dL_melt_15 : decode cL_melt 15 = .ok (.astore_n 3, 1) := by decide +kernel
theorem dL_melt_16 : decode cL_melt 16 = .ok (.iconst 2, 1) := by decide +kernel
theorem dL_melt_17 : decode cL_melt 17 = .ok (.ireturn, 1) := by decide +kernel
theorem dL_melt_18 : decode cL_melt 18 = .ok (.iconst 0, 1) := by decide +kernel
theorem dL_melt_19 : decode cL_melt 19 = .ok (.ireturn, 1) := by decide +kernel
set_option maxRecDepth 20000 in
theorem ggL_buy_X4_buy : GoodIn wsL_buy wsX4_buy := goodIn_ca (goodIn_ca (goodIn_r _ [7, 8, 9, 10, 11, 12, 13, 14, 15, 16, 17, 18, 19, 20, 21, 22, 23] (by decide +kernel) (by decide +kernel)) (goodIn_sub (fun _ h => List.mem_cons_of_mem _ (List.mem_append_left _ (List.mem_append_right _ h))) (by decide +kernel))) (goodIn_sub (fun _ h => List.mem_cons_of_mem _ (List.mem_append_right _ h)) (by decide +kernel))
set_option maxRecDepth 20000 in
theorem gL_buy_X4_buy : GoodIn wsL_buy (wsV RL 23 RX4 yX4_buy wsX4_buy) := goodIn_app (goodIn_of _ (by decide +kernel)) ggL_buy_X4_buy
theorem dL_buy_0 : decode cL_buy 0 = .ok (.aload_n 2, 1) := by decide +kernel
theorem dL_buy_1 : decode cL_buy 1 = .ok (.iconst 0, 1) := by decide +kernel
theorem dL_buy_2 : decode cL_buy 2 = .ok (.aload_n 0, 1) := by decide +kernel
theorem dL_buy_3 : decode cL_buy 3 = .ok (.iload_n 1, 1) := by decide +kernel
theorem dL_buy_4 : decode cL_buy 4 = .ok (.invokevirtual 23, 3) := by decide +kernel
theorem dL_buy_7 : decode cL_buy 7 = .ok (.i2l, 1) := by decide +kernel
theorem dL_buy_8 : decode cL_buy 8 = .ok (.lastore, 1) := by decide +kernel
theorem dL_buy_9 : decode cL_buy 9 = .ok (.goto 9, 3) := by decide +kernel
theorem dL_buy_12 : decode cL_buy 12 = .ok (.astore_n 3, 1) := by decide +kernel
theorem dL_buy_13 : decode cL_buy 13 = .ok (.iconst 1, 1) := by decide +kernel
theorem dL_buy_14 : decode cL_buy 14 = .ok (.ireturn, 1) := by decide +kernel
theorem dL_buy_15 : decode cL_buy 15 = .ok (.astore_n 3, 1) := by decide +kernel
theorem dL_buy_16 : decode cL_buy 16 = .ok (.iconst 2, 1) := by decide +kernel
theorem dL_buy_17 : decode cL_buy 17 = .ok (.ireturn, 1) := by decide +kernel
theorem dL_buy_18 : decode cL_buy 18 = .ok (.iconst 0, 1) := by decide +kernel
theorem dL_buy_19 : decode cL_buy 19 = .ok (.ireturn, 1) := by decide +kernel
set_option maxRecDepth 20000 in
theorem ggL_come_X4_come : GoodIn wsL_come wsX4_come := goodIn_ca (goodIn_ca (goodIn_r _ [7, 8, 9, 10, 11, 12, 13, 14, 15, 16, 17, 18, 19, 20, 21, 22, 23, 24, 25, 26, 27, 28, 29, 30, 31, 32, 33, 34, 35, 36, 37, 38, 39, 40, 41, 42, 43, 44, 45, 46, 47, 48, 49, 50, 51] (by decide +kernel) (by decide +kernel)) (goodIn_sub (fun _ h => List.mem_cons_of_mem _ (List.mem_append_left _ (List.mem_append_right _ h))) (by decide +kernel))) (goodIn_sub (fun _ h => List.mem_cons_of_mem _ (List.mem_append_right _ h)) (by decide +kernel))
set_option maxRecDepth 20000 in
theorem gL_come_X4_come : GoodIn wsL_come (wsV RL 26 RX4 yX4_come wsX4_come) := goodIn_app (goodIn_of _ (by decide +kernel)) ggL_come_X4_come
theorem dL_come_0 : decode cL_come 0 = .ok (.aload_n 2, 1) := by decide +kernel
theorem dL_come_1 : decode cL_come 1 = .ok (.iconst 0, 1) := by decide +kernel
theorem dL_come_2 : decode cL_come 2 = .ok (.aload_n 0, 1) := by decide +kernel
theorem dL_come_3 : decode cL_come 3 = .ok (.iload_n 1, 1) := by decide +kernel
theorem dL_come_4 : decode cL_come 4 = .ok (.invokevirtual 26, 3) := by decide +kernel
theorem dL_come_7 : decode cL_come 7 = .ok (.i2l, 1) := by decide +kernel
theorem dL_come_8 : decode cL_come 8 = .ok (.lastore, 1) := by decide +kernel
theorem dL_come_9 : decode cL_come 9 = .ok (.goto 9, 3) := by decide +kernel
theorem dL_come_12 : decode cL_come 12 = .ok (.astore_n 3, 1) := by decide +kernel
theorem dL_come_13 : decode cL_come 13 = .ok (.iconst 1, 1) := by decide +kernel
theorem dL_come_14 : decode cL_come 14 = .ok (.ireturn, 1) := by decide +kernel
theorem dL_come_15 : decode cL_come 15 = .ok (.astore_n 3, 1) := by decide +kernel
theorem dL_come_16 : decode cL_come 16 = .ok (.iconst 2, 1) := by decide +kernel
theorem dL_come_17 : decode cL_come 17 = .ok (.ireturn, 1) := by decide +kernel
theorem dL_come_18 : decode cL_come 18 = .ok (.iconst 0, 1) := by decide +kernel
theorem dL_come_19 : decode cL_come 19 = .ok (.ireturn, 1) := by decide +kernel
set_option maxRecDepth 20000 in
theorem ggL_rent_X4_rent : GoodIn wsL_rent wsX4_rent := goodIn_ca (goodIn_ca (goodIn_ca (goodIn_r _ [8, 9, 10, 11, 12, 13, 14, 7, 15, 16, 17, 18, 19, 20, 21, 22, 23, 24, 25, 26, 27, 28, 29, 30, 31, 32, 33, 34, 35, 36, 37, 38, 39, 40, 41, 42, 43, 44, 45, 46, 47, 48, 49, 50, 51, 52, 53, 54, 55, 56, 57, 58, 59, 60, 61, 62, 63, 64, 65, 66, 67, 68, 69, 70] (by decide +kernel) (by decide +kernel)) (goodIn_sub (fun _ h => List.mem_cons_of_mem _ (List.mem_append_left _ (List.mem_append_left _ (List.mem_append_right _ h)))) (by decide +kernel))) (goodIn_sub (fun _ h => List.mem_cons_of_mem _ (List.mem_append_left _ (List.mem_append_right _ h))) (by decide +kernel))) (goodIn_sub (fun _ h => List.mem_cons_of_mem _ (List.mem_append_right _ h)) (by decide +kernel))
set_option maxRecDepth 20000 in
theorem gL_rent_X4_rent : GoodIn wsL_rent (wsV RL 29 RX4 yX4_rent wsX4_rent) := goodIn_app (goodIn_of _ (by decide +kernel)) ggL_rent_X4_rent
theorem dL_rent_0 : decode cL_rent 0 = .ok (.aload 4, 2) := by decide +kernel
theorem dL_rent_2 : decode cL_rent 2 = .ok (.iconst 0, 1) := by decide +kernel
theorem dL_rent_3 : decode cL_rent 3 = .ok (.aload_n 0, 1) := by decide +kernel
theorem dL_rent_4 : decode cL_rent 4 = .ok (.iload_n 1, 1) := by decide +kernel
theorem dL_rent_5 : decode cL_rent 5 = .ok (.iload_n 2, 1) := by decide +kernel
theorem dL_rent_6 : decode cL_rent 6 = .ok (.iload_n 3, 1) := by decide +kernel
theorem dL_rent_7 : decode cL_rent 7 = .ok (.invokevirtual 29, 3) := by decide +kernel
theorem dL_rent_10 : decode cL_rent 10 = .ok (.i2l, 1) := by decide +kernel
theorem dL_rent_11 : decode cL_rent 11 = .ok (.lastore, 1) := by decide +kernel
theorem dL_rent_12 : decode cL_rent 12 = .ok (.goto 15, 3) := by decide +kernel
theorem dL_rent_15 : decode cL_rent 15 = .ok (.astore 5, 2) := by decide +kernel
theorem dL_rent_17 : decode cL_rent 17 = .ok (.iconst 1, 1) := by decide +kernel
theorem dL_rent_18 : decode cL_rent 18 = .ok (.ireturn, 1) := by decide +kernel
theorem dL_rent_19 : decode cL_rent 19 = .ok (.astore 5, 2) := by decide +kernel
theorem dL_rent_21 : decode cL_rent 21 = .ok (.iconst 2, 1) := by decide +kernel
theorem dL_rent_22 : decode cL_rent 22 = .ok (.ireturn, 1) := by decide +kernel
theorem dL_rent_23 : decode cL_rent 23 = .ok (.astore 5, 2) := by decide +kernel
theorem dL_rent_25 : decode cL_rent 25 = .ok (.iconst 3, 1) := by decide +kernel
theorem dL_rent_26 : decode cL_rent 26 = .ok (.ireturn, 1) := by decide +kernel
theorem dL_rent_27 : decode cL_rent 27 = .ok (.iconst 0, 1) := by decide +kernel
theorem dL_rent_28 : decode cL_rent 28 = .ok (.ireturn, 1) := by decide +kernel
set_option maxRecDepth 20000 in
theorem ggL_giveBack_X4_giveBack : GoodIn wsL_giveBack wsX4_giveBack := goodIn_ca (goodIn_ca (goodIn_ca (goodIn_r _ [8, 9, 10, 11, 12, 13, 14, 7, 15, 16, 17, 18, 19, 20, 21, 22, 23, 24, 25, 26, 27, 28, 29, 30, 31, 32, 33, 34, 35, 36, 37, 38, 39, 40, 41, 42, 43, 44, 45, 46, 47, 48, 49, 50, 51, 52, 53, 54, 55, 56, 57, 58, 59, 60, 61, 62, 63, 64, 65, 66, 67, 68, 69, 70] (by decide +kernel) (by decide +kernel)) (goodIn_sub (fun _ h => List.mem_cons_of_mem _ (List.mem_append_left _ (List.mem_append_left _ (List.mem_append_right _ h)))) (by decide +kernel))) (goodIn_sub (fun _ h => List.mem_cons_of_mem _ (List.mem_append_left _ (List.mem_append_right _ h))) (by decide +kernel))) (goodIn_sub (fun _ h => List.mem_cons_of_mem _ (List.mem_append_right _ h)) (by decide +kernel))
set_option maxRecDepth 20000 in
theorem gL_giveBack_X4_giveBack : GoodIn wsL_giveBack (wsV RL 33 RX4 yX4_giveBack wsX4_giveBack) := goodIn_app (goodIn_of _ (by decide +kernel)) ggL_giveBack_X4_giveBack
theorem dL_giveBack_0 : decode cL_giveBack 0 = .ok (.aload 4, 2) := by decide +kernel
theorem dL_giveBack_2 : decode cL_giveBack 2 = .ok (.iconst 0, 1) := by decide +kernel
theorem dL_giveBack_3 : decode cL_giveBack 3 = .ok (.aload_n 0, 1) := by decide +kernel
theorem dL_giveBack_4 : decode cL_giveBack 4 = .ok (.iload_n 1, 1) := by decide +kernel
theorem dL_giveBack_5 : decode cL_giveBack 5 = .ok (.iload_n 2, 1) := by decide +kernel
theorem dL_giveBack_6 : decode cL_giveBack 6 = .ok (.iload_n 3, 1) := by decide +kernel
theorem dL_giveBack_7 : decode cL_giveBack 7 = .ok (.invokevirtual 33, 3) := by decide +kernel
theorem dL_giveBack_10 : decode cL_giveBack 10 = .ok (.i2l, 1) := by decide +kernel
theorem dL_giveBack_11 : decode cL_giveBack 11 = .ok (.lastore, 1) := by decide +kernel
theorem dL_giveBack_12 : decode cL_giveBack 12 = .ok (.goto 15, 3) := by decide +kernel
theorem dL_giveBack_15 : decode cL_giveBack 15 = .ok (.astore 5, 2) := by decide +kernel
theorem dL_giveBack_17 : decode cL_giveBack 17 = .ok (.iconst 1, 1) := by decide +kernel
theorem dL_giveBack_18 : decode cL_giveBack 18 = .ok (.ireturn, 1) := by decide +kernel
theorem dL_giveBack_19 : decode cL_giveBack 19 = .ok (.astore 5, 2) := by decide +kernel
theorem dL_giveBack_21 : decode cL_giveBack 21 = .ok (.iconst 2, 1) := by decide +kernel
theorem dL_giveBack_22 : decode cL_giveBack 22 = .ok (.ireturn, 1) := by decide +kernel
theorem dL_giveBack_23 : decode cL_giveBack 23 = .ok (.astore 5, 2) := by decide +kernel
theorem dL_giveBack_25 : decode cL_giveBack 25 = .ok (.iconst 3, 1) := by decide +kernel
theorem dL_giveBack_26 : decode cL_giveBack 26 = .ok (.ireturn, 1) := by decide +kernel
theorem dL_giveBack_27 : decode cL_giveBack 27 = .ok (.iconst 0, 1) := by decide +kernel
theorem dL_giveBack_28 : decode cL_giveBack 28 = .ok (.ireturn, 1) := by decide +kernel
set_option maxRecDepth 20000 in
theorem ggL_pay_X4_pay : GoodIn wsL_pay wsX4_pay := goodIn_ca (goodIn_r _ [6, 7, 8, 9, 10, 11, 12, 13, 14, 5, 15, 16, 17, 18, 19, 20, 21, 22, 23, 24, 25, 26, 27, 28, 29, 30, 31, 32, 33, 34, 35] (by decide +kernel) (by decide +kernel)) (goodIn_sub (fun _ h => List.mem_cons_of_mem _ (List.mem_append_right _ h)) (by decide +kernel))
set_option maxRecDepth 20000 in
theorem gL_pay_X4_pay : GoodIn wsL_pay (wsV RL 36 RX4 yX4_pay wsX4_pay) := goodIn_app (goodIn_of _ (by decide +kernel)) ggL_pay_X4_pay
theorem dL_pay_0 : decode cL_pay 0 = .ok (.aload_n 2, 1) := by decide +kernel
theorem dL_pay_1 : decode cL_pay 1 = .ok (.iconst 0, 1) := by decide +kernel
theorem dL_pay_2 : decode cL_pay 2 = .ok (.aload_n 0, 1) := by decide +kernel
theorem dL_pay_3 : decode cL_pay 3 = .ok (.iload_n 1, 1) := by decide +kernel
theorem dL_pay_4 : decode cL_pay 4 = .ok (.invokevirtual 36, 3) := by decide +kernel
theorem dL_pay_7 : decode cL_pay 7 = .ok (.i2l, 1) := by decide +kernel
theorem dL_pay_8 : decode cL_pay 8 = .ok (.lastore, 1) := by decide +kernel
theorem dL_pay_9 : decode cL_pay 9 = .ok (.goto 6, 3) := by decide +kernel
theorem dL_pay_12 : decode cL_pay 12 = .ok (.astore_n 3, 1) := by decide +kernel
theorem dL_pay_13 : decode cL_pay 13 = .ok (.iconst 1, 1) := by decide +kernel
theorem dL_pay_14 : decode cL_pay 14 = .ok (.ireturn, 1) := by decide +kernel
theorem dL_pay_15 : decode cL_pay 15 = .ok (.iconst 0, 1) := by decide +kernel
theorem dL_pay_16 : decode cL_pay 16 = .ok (.ireturn, 1) := by decide +kernel
set_option maxRecDepth 20000 in
theorem ggL_set_X4_set : GoodIn wsL_set wsX4_set := goodIn_ca (goodIn_ca (goodIn_ca (goodIn_r _ [8, 9, 10, 11, 12, 13, 14, 7, 15, 16, 17, 18, 19, 20, 21, 22, 23, 24, 25, 26, 27, 28, 29, 30, 31, 32, 33, 34, 35, 36, 37, 38, 39, 40, 41, 42, 43, 44, 45, 46, 47, 48, 49, 50, 51, 52, 53, 54, 55, 56, 57, 58, 59, 60, 61, 62, 63, 64, 65, 66, 67, 68, 69, 70, 71, 72, 73, 74, 75, 76, 77, 78, 79, 80, 81, 82, 83, 84, 85, 86, 87, 88, 89, 90, 91, 92, 93, 94, 95, 96, 97, 98, 99, 100, 101, 102, 103, 104, 105, 106, 107, 108, 109, 110, 111, 112, 113, 114, 115, 116, 117, 118, 119, 120, 121, 122, 123] (by decide +kernel) (by decide +kernel)) (goodIn_sub (fun _ h => List.mem_cons_of_mem _ (List.mem_append_left _ (List.mem_append_left _ (List.mem_append_right _ h)))) (by decide +kernel))) (goodIn_sub (fun _ h => List.mem_cons_of_mem _ (List.mem_append_left _ (List.mem_append_right _ h))) (by decide +kernel))) (goodIn_sub (fun _ h => List.mem_cons_of_mem _ (List.mem_append_right _ h)) (by decide +kernel))
set_option maxRecDepth 20000 in
theorem gL_set_X4_set : GoodIn wsL_set (wsV RL 39 RX4 yX4_set wsX4_set) := goodIn_app (goodIn_of _ (by decide +kernel)) ggL_set_X4_set
theorem dL_set_0 : decode cL_set 0 = .ok (.aload_n 3, 1) := by decide +kernel
theorem dL_set_1 : decode cL_set 1 = .ok (.iconst 0, 1) := by decide +kernel
theorem dL_set_2 : decode cL_set 2 = .ok (.aload_n 0, 1) := by decide +kernel
theorem dL_set_3 : decode cL_set 3 = .ok (.iload_n 1, 1) := by decide +kernel
theorem dL_set_4 : decode cL_set 4 = .ok (.iload_n 2, 1) := by decide +kernel
theorem dL_set_5 : decode cL_set 5 = .ok (.invokevirtual 39, 3) := by decide +kernel
theorem dL_set_8 : decode cL_set 8 = .ok (.i2l, 1) := by decide +kernel
theorem dL_set_9 : decode cL_set 9 = .ok (.lastore, 1) := by decide +kernel
theorem dL_set_10 : decode cL_set 10 = .ok (.goto 15, 3) := by decide +kernel
theorem dL_set_13 : decode cL_set 13 = .ok (.astore 4, 2) := by decide +kernel
theorem dL_set_15 : decode cL_set 15 = .ok (.iconst 1, 1) := by decide +kernel
theorem dL_set_16 : decode cL_set 16 = .ok (.ireturn, 1) := by decide +kernel
theorem dL_set_17 : decode cL_set 17 = .ok (.astore 4, 2) := by decide +kernel
theorem dL_set_19 : decode cL_set 19 = .ok (.iconst 2, 1) := by decide +kernel
theorem dL_set_20 : decode cL_set 20 = .ok (.ireturn, 1) := by decide +kernel
theorem dL_set_21 : decode cL_set 21 = .ok (.astore 4, 2) := by decide +kernel
theorem dL_set_23 : decode cL_set 23 = .ok (.iconst 3, 1) := by decide +kernel
theorem dL_set_24 : decode cL_set 24 = .ok (.ireturn, 1) := by decide +kernel
theorem dL_set_25 : decode cL_set 25 = .ok (.iconst 0, 1) := by decide +kernel
theorem dL_set_26 : decode cL_set 26 = .ok (.ireturn, 1) := by decide +kernel
set_option maxRecDepth 20000 in
theorem ggL_print_X4_print : GoodIn wsL_print wsX4_print := goodIn_ca (goodIn_ca (goodIn_ca (goodIn_r _ [8, 9, 10, 11, 12, 13, 14, 15, 16, 7, 17, 18, 19, 20, 21, 22, 23, 24, 25, 26, 27, 28, 29, 30, 31, 32, 33, 34, 35, 36, 37, 38, 39, 40, 41, 42, 43, 44, 45, 46, 47, 48, 49, 50, 51, 52, 53, 54, 55, 56, 57, 58, 59, 60] (by decide +kernel) (by decide +kernel)) (goodIn_sub (fun _ h => List.mem_cons_of_mem _ (List.mem_append_left _ (List.mem_append_left _ (List.mem_append_right _ h)))) (by decide +kernel))) (goodIn_sub (fun _ h => List.mem_cons_of_mem _ (List.mem_append_left _ (List.mem_append_right _ h))) (by decide +kernel))) (goodIn_sub (fun _ h => List.mem_cons_of_mem _ (List.mem_append_right _ h)) (by decide +kernel))
set_option maxRecDepth 20000 in
theorem gL_print_X4_print : GoodIn wsL_print (wsV RL 42 RX4 yX4_print wsX4_print) := goodIn_app (goodIn_of _ (by decide +kernel)) ggL_print_X4_print
theorem dL_print_0 : decode cL_print 0 = .ok (.aload_n 3, 1) := by decide +kernel
theorem dL_print_1 : decode cL_print 1 = .ok (.iconst 0, 1) := by decide +kernel
theorem dL_print_2 : decode cL_print 2 = .ok (.aload_n 0, 1) := by decide +kernel
theorem dL_print_3 : decode cL_print 3 = .ok (.iload_n 1, 1) := by decide +kernel
theorem dL_print_4 : decode cL_print 4 = .ok (.iload_n 2, 1) := by decide +kernel
theorem dL_print_5 : decode cL_print 5 = .ok (.invokevirtual 42, 3) := by decide +kernel
theorem dL_print_8 : decode cL_print 8 = .ok (.i2l, 1) := by decide +kernel
theorem dL_print_9 : decode cL_print 9 = .ok (.lastore, 1) := by decide +kernel
theorem dL_print_10 : decode cL_print 10 = .ok (.goto 15, 3) := by decide +kernel
theorem dL_print_13 : decode cL_print 13 = .ok (.astore 4, 2) := by decide +kernel
theorem dL_print_15 : decode cL_print 15 = .ok (.iconst 1, 1) := by decide +kernel
theorem dL_print_16 : decode cL_print 16 = .ok (.ireturn, 1) := by decide +kernel
theorem dL_print_17 : decode cL_print 17 = .ok (.astore 4, 2) := by decide +kernel
theorem dL_print_19 : decode cL_print 19 = .ok (.iconst 2, 1) := by decide +kernel
theorem dL_print_20 : decode cL_print 20 = .ok (.ireturn, 1) := by decide +kernel
theorem dL_print_21 : decode cL_print 21 = .ok (.astore 4, 2) := by decide +kernel
theorem dL_print_23 : decode cL_print 23 = .ok (.iconst 3, 1) := by decide +kernel
theorem dL_print_24 : decode cL_print 24 = .ok (.ireturn, 1) := by decide +kernel
theorem dL_print_25 : decode cL_print 25 = .ok (.iconst 0, 1) := by decide +kernel
theorem dL_print_26 : decode cL_print 26 = .ok (.ireturn, 1) := by decide +kernel
set_option maxRecDepth 20000 in
theorem ggL_distribute_X4_distribute : GoodIn wsL_distribute wsX4_distribute := goodIn_ca (goodIn_r _ [6, 7, 8, 9, 5, 10, 11, 12, 13, 14, 15, 16, 17, 18, 19, 20, 21, 22, 23, 24, 25, 26, 27, 28, 29, 30, 31, 32, 33, 34, 35, 36, 37, 38, 39, 40, 41, 42, 43, 44, 45, 46, 47, 48, 49, 50, 51, 52, 53, 54, 55, 56, 57, 58, 59, 60, 61] (by decide +kernel) (by decide +kernel)) (goodIn_sub (fun _ h => List.mem_cons_of_mem _ (List.mem_append_right _ h)) (by decide +kernel))
set_option maxRecDepth 20000 in
theorem gL_distribute_X4_distribute : GoodIn wsL_distribute (wsV RL 45 RX4 yX4_distribute wsX4_distribute) := goodIn_app (goodIn_of _ (by decide +kernel)) ggL_distribute_X4_distribute
theorem dL_distribute_0 : decode cL_distribute 0 = .ok (.aload_n 2, 1) := by decide +kernel
theorem dL_distribute_1 : decode cL_distribute 1 = .ok (.iconst 0, 1) := by decide +kernel
theorem dL_distribute_2 : decode cL_distribute 2 = .ok (.aload_n 0, 1) := by decide +kernel
theorem dL_distribute_3 : decode cL_distribute 3 = .ok (.iload_n 1, 1) := by decide +kernel
theorem dL_distribute_4 : decode cL_distribute 4 = .ok (.invokevirtual 45, 3) := by decide +kernel
theorem dL_distribute_7 : decode cL_distribute 7 = .ok (.i2l, 1) := by decide +kernel
theorem dL_distribute_8 : decode cL_distribute 8 = .ok (.lastore, 1) := by decide +kernel
theorem dL_distribute_9 : decode cL_distribute 9 = .ok (.goto 6, 3) := by decide +kernel
theorem dL_distribute_12 : decode cL_distribute 12 = .ok (.astore_n 3, 1) := by decide +kernel
theorem dL_distribute_13 : decode cL_distribute 13 = .ok (.iconst 1, 1) := by decide +kernel
theorem dL_distribute_14 : decode cL_distribute 14 = .ok (.ireturn, 1) := by decide +kernel
theorem dL_distribute_15 : decode cL_distribute 15 = .ok (.iconst 0, 1) := by decide +kernel
theorem dL_distribute_16 : decode cL_distribute 16 = .ok (.ireturn, 1) := by decide +kernel
set_option maxRecDepth 20000 in
theorem ggL_pass_X4_pass : GoodIn wsL_pass wsX4_pass := goodIn_ca (goodIn_r _ [6, 7, 8, 9, 10, 11, 12, 13, 14, 15, 16, 17, 18, 19, 20, 21, 22, 23, 24, 25, 26, 27, 28, 29, 30, 31, 32, 33, 34, 35, 36, 37, 38, 39, 40, 41] (by decide +kernel) (by decide +kernel)) (goodIn_sub (fun _ h => List.mem_cons_of_mem _ (List.mem_append_right _ h)) (by decide +kernel))
set_option maxRecDepth 20000 in
theorem gL_pass_X4_pass : GoodIn wsL_pass (wsV RL 48 RX4 yX4_pass wsX4_pass) := goodIn_app (goodIn_of _ (by decide +kernel)) ggL_pass_X4_pass
theorem dL_pass_0 : decode cL_pass 0 = .ok (.aload_n 2, 1) := by decide +kernel
theorem dL_pass_1 : decode cL_pass 1 = .ok (.iconst 0, 1) := by decide +kernel
theorem dL_pass_2 : decode cL_pass 2 = .ok (.aload_n 0, 1) := by decide +kernel
theorem dL_pass_3 : decode cL_pass 3 = .ok (.iload_n 1, 1) := by decide +kernel
theorem dL_pass_4 : decode cL_pass 4 = .ok (.invokevirtual 48, 3) := by decide +kernel
theorem dL_pass_7 : decode cL_pass 7 = .ok (.i2l, 1) := by decide +kernel
theorem dL_pass_8 : decode cL_pass 8 = .ok (.lastore, 1) := by decide +kernel
theorem dL_pass_9 : decode cL_pass 9 = .ok (.goto 6, 3) := by decide +kernel
theorem dL_pass_12 : decode cL_pass 12 = .ok (.astore_n 3, 1) := by decide +kernel
theorem dL_pass_13 : decode cL_pass 13 = .ok (.iconst 1, 1) := by decide +kernel
theorem dL_pass_14 : decode cL_pass 14 = .ok (.ireturn, 1) := by decide +kernel
theorem dL_pass_15 : decode cL_pass 15 = .ok (.iconst 0, 1) := by decide +kernel
theorem dL_pass_16 : decode cL_pass 16 = .ok (.ireturn, 1) := by decide +kernel
set_option maxRecDepth 20000 in
theorem ggL_sorts_X4_sorts : GoodIn wsL_sorts wsX4_sorts := goodIn_ca (goodIn_r _ [6, 7, 8, 9, 10, 11, 12, 5, 13, 14, 15, 16, 17, 18, 19, 20, 21, 22, 23, 24, 25, 26, 27, 28, 29, 30, 31, 32, 33, 34, 35, 36, 37, 38, 39, 40, 41] (by decide +kernel) (by decide +kernel)) (goodIn_sub (fun _ h => List.mem_cons_of_mem _ (List.mem_append_right _ h)) (by decide +kernel))
set_option maxRecDepth 20000 in
theorem gL_sorts_X4_sorts : GoodIn wsL_sorts (wsV RL 51 RX4 yX4_sorts wsX4_sorts) := goodIn_app (goodIn_of _ (by decide +kernel)) ggL_sorts_X4_sorts
theorem dL_sorts_0 : decode cL_sorts 0 = .ok (.aload 4, 2) := by decide +kernel
theorem dL_sorts_2 : decode cL_sorts 2 = .ok (.iconst 0, 1) := by decide +kernel
theorem dL_sorts_3 : decode cL_sorts 3 = .ok (.aload_n 0, 1) := by decide +kernel
theorem dL_sorts_4 : decode cL_sorts 4 = .ok (.iload_n 1, 1) := by decide +kernel
theorem dL_sorts_5 : decode cL_sorts 5 = .ok (.iload_n 2, 1) := by decide +kernel
theorem dL_sorts_6 : decode cL_sorts 6 = .ok (.iload_n 3, 1) := by decide +kernel
theorem dL_sorts_7 : decode cL_sorts 7 = .ok (.invokevirtual 51, 3) := by decide +kernel
theorem dL_sorts_10 : decode cL_sorts 10 = .ok (.i2l, 1) := by decide +kernel
theorem dL_sorts_11 : decode cL_sorts 11 = .ok (.lastore, 1) := by decide +kernel
theorem dL_sorts_12 : decode cL_sorts 12 = .ok (.goto 7, 3) := by decide +kernel
theorem dL_sorts_15 : decode cL_sorts 15 = .ok (.astore 5, 2) := by decide +kernel
theorem dL_sorts_17 : decode cL_sorts 17 = .ok (.iconst 1, 1) := by decide +kernel
theorem dL_sorts_18 : decode cL_sorts 18 = .ok (.ireturn, 1) := by decide +kernel
theorem dL_sorts_19 : decode cL_sorts 19 = .ok (.iconst 0, 1) := by decide +kernel
theorem dL_sorts_20 : decode cL_sorts 20 = .ok (.ireturn, 1) := by decide +kernel
set_option maxRecDepth 20000 in
theorem ggL_printer_X4_printer : GoodIn wsL_printer wsX4_printer := goodIn_ca (goodIn_r _ [6, 7, 8, 9, 10, 11, 5, 12, 13, 14, 15, 16, 17, 18, 19, 20, 21, 22, 23, 24, 25, 26, 27, 28, 29, 30, 31, 32, 33, 34, 35, 36, 37, 38, 39, 40, 41, 42, 43, 44, 45, 46, 47, 48, 49, 50, 51, 52] (by decide +kernel) (by decide +kernel)) (goodIn_sub (fun _ h => List.mem_cons_of_mem _ (List.mem_append_right _ h)) (by decide +kernel))
set_option maxRecDepth 20000 in
theorem gL_printer_X4_printer : GoodIn wsL_printer (wsV RL 54 RX4 yX4_printer wsX4_printer) := goodIn_app (goodIn_of _ (by decide +kernel)) ggL_printer_X4_printer
theorem dL_printer_0 : decode cL_printer 0 = .ok (.aload_n 3, 1) := by decide +kernel
theorem dL_printer_1 : decode cL_printer 1 = .ok (.iconst 0, 1) := by decide +kernel
theorem dL_printer_2 : decode cL_printer 2 = .ok (.aload_n 0, 1) := by decide +kernel
theorem dL_printer_3 : decode cL_printer 3 = .ok (.iload_n 1, 1) := by decide +kernel
theorem dL_printer_4 : decode cL_printer 4 = .ok (.iload_n 2, 1) := by decide +kernel
theorem dL_printer_5 : decode cL_printer 5 = .ok (.invokevirtual 54, 3) := by decide +kernel
theorem dL_printer_8 : decode cL_printer 8 = .ok (.i2l, 1) := by decide +kernel
theorem dL_printer_9 : decode cL_printer 9 = .ok (.lastore, 1) := by decide +kernel
theorem dL_printer_10 : decode cL_printer 10 = .ok (.goto 7, 3) := by decide +kernel
theorem dL_printer_13 : decode cL_printer 13 = .ok (.astore 4, 2) := by decide +kernel
theorem dL_printer_15 : decode cL_printer 15 = .ok (.iconst 1, 1) := by decide +kernel
theorem dL_printer_16 : decode cL_printer 16 = .ok (.ireturn, 1) := by decide +kernel
theorem dL_printer_17 : decode cL_printer 17 = .ok (.iconst 0, 1) := by decide +kernel
theorem dL_printer_18 : decode cL_printer 18 = .ok (.ireturn, 1) := by decide +kernel
set_option maxRecDepth 20000 in
theorem ggL_count_X4_count : GoodIn wsL_count wsX4_count := goodIn_ca (goodIn_r _ [6, 7, 8, 9, 10, 11, 5, 12, 13, 14, 15, 16, 17, 18, 19, 20, 21, 22, 23, 24, 25, 26, 27, 28, 29, 30, 31, 32, 33, 34, 35, 36, 37, 38] (by decide +kernel) (by decide +kernel)) (goodIn_sub (fun _ h => List.mem_cons_of_mem _ (List.mem_append_right _ h)) (by decide +kernel))
set_option maxRecDepth 20000 in
theorem gL_count_X4_count : GoodIn wsL_count (wsV RL 57 RX4 yX4_count wsX4_count) := goodIn_app (goodIn_of _ (by decide +kernel)) ggL_count_X4_count
theorem dL_count_0 : decode cL_count 0 = .ok (.aload_n 2, 1) := by decide +kernel
theorem dL_count_1 : decode cL_count 1 = .ok (.iconst 0, 1) := by decide +kernel
theorem dL_count_2 : decode cL_count 2 = .ok (.aload_n 0, 1) := by decide +kernel
theorem dL_count_3 : decode cL_count 3 = .ok (.iload_n 1, 1) := by decide +kernel
theorem dL_count_4 : decode cL_count 4 = .ok (.invokevirtual 57, 3) := by decide +kernel
theorem dL_count_7 : decode cL_count 7 = .ok (.i2l, 1) := by decide +kernel
theorem dL_count_8 : decode cL_count 8 = .ok (.lastore, 1) := by decide +kernel
theorem dL_count_9 : decode cL_count 9 = .ok (.goto 6, 3) := by decide +kernel
theorem dL_count_12 : decode cL_count 12 = .ok (.astore_n 3, 1) := by decide +kernel
theorem dL_count_13 : decode cL_count 13 = .ok (.iconst 1, 1) := by decide +kernel
theorem dL_count_14 : decode cL_count 14 = .ok (.ireturn, 1) := by decide +kernel
theorem dL_count_15 : decode cL_count 15 = .ok (.iconst 0, 1) := by decide +kernel
theorem dL_count_16 : decode cL_count 16 = .ok (.ireturn, 1) := by decide +kernel
set_option maxRecDepth 20000 in
theorem ggL_takes_X4_takes : GoodIn wsL_takes wsX4_takes := goodIn_ca (goodIn_ca (goodIn_r _ [7, 8, 9, 10, 11, 6, 12, 13, 14, 15, 16, 17, 18, 19, 20, 21, 22, 23, 24, 25, 26, 27, 28, 29, 30, 31, 32, 33, 34, 35, 36, 37, 38, 39, 40, 41, 42, 43, 44, 45, 46, 47, 48, 49, 50, 51, 52, 53, 54, 55, 56, 57, 58, 59, 60, 61, 62, 63, 64, 65, 66, 67, 68, 69, 70, 71, 72, 73, 74, 75, 76, 77, 78, 79, 80, 81, 82, 83, 84, 85, 86, 87, 88, 89, 90, 91, 92, 93, 94, 95, 96] (by decide +kernel) (by decide +kernel)) (goodIn_sub (fun _ h => List.mem_cons_of_mem _ (List.mem_append_left _ (List.mem_append_right _ h))) (by decide +kernel))) (goodIn_sub (fun _ h => List.mem_cons_of_mem _ (List.mem_append_right _ h)) (by decide +kernel))
set_option maxRecDepth 20000 in
theorem gL_takes_X4_takes : GoodIn wsL_takes (wsV RL 60 RX4 yX4_takes wsX4_takes) := goodIn_app (goodIn_of _ (by decide +kernel)) ggL_takes_X4_takes
theorem dL_takes_0 : decode cL_takes 0 = .ok (.aload_n 3, 1) := by decide +kernel
theorem dL_takes_1 : decode cL_takes 1 = .ok (.iconst 0, 1) := by decide +kernel
theorem dL_takes_2 : decode cL_takes 2 = .ok (.aload_n 0, 1) := by decide +kernel
theorem dL_takes_3 : decode cL_takes 3 = .ok (.iload_n 1, 1) := by decide +kernel
theorem dL_takes_4 : decode cL_takes 4 = .ok (.iload_n 2, 1) := by decide +kernel
theorem dL_takes_5 : decode cL_takes 5 = .ok (.invokevirtual 60, 3) := by decide +kernel
theorem dL_takes_8 : decode cL_takes 8 = .ok (.i2l, 1) := by decide +kernel
theorem dL_takes_9 : decode cL_takes 9 = .ok (.lastore, 1) := by decide +kernel
theorem dL_takes_10 : decode cL_takes 10 = .ok (.goto 11, 3) := by decide +kernel
theorem dL_takes_13 : decode cL_takes 13 = .ok (.astore 4, 2) := by decide +kernel
theorem dL_takes_15 : decode cL_takes 15 = .ok (.iconst 1, 1) := by decide +kernel
theorem dL_takes_16 : decode cL_takes 16 = .ok (.ireturn, 1) := by decide +kernel
theorem dL_takes_17 : decode cL_takes 17 = .ok (.astore 4, 2) := by decide +kernel
theorem dL_takes_19 : decode cL_takes 19 = .ok (.iconst 2, 1) := by decide +kernel
theorem dL_takes_20 : decode cL_takes 20 = .ok (.ireturn, 1) := by decide +kernel
theorem dL_takes_21 : decode cL_takes 21 = .ok (.iconst 0, 1) := by decide +kernel
theorem dL_takes_22 : decode cL_takes 22 = .ok (.ireturn, 1) := by decide +kernel
set_option maxRecDepth 20000 in
theorem ggL_lacks_X4_lacks : GoodIn wsL_lacks wsX4_lacks := goodIn_ca (goodIn_ca (goodIn_r _ [7, 8, 9, 10, 6, 11, 12, 13, 14, 15, 16, 17, 18, 19, 20, 21, 22, 23, 24, 25, 26, 27, 28, 29, 30, 31, 32, 33, 34, 35, 36, 37, 38, 39, 40, 41, 42, 43, 44, 45, 46, 47, 48, 49, 50, 51, 52, 53, 54, 55, 56, 57, 58, 59, 60, 61, 62, 63, 64, 65, 66, 67] (by decide +kernel) (by decide +kernel)) (goodIn_sub (fun _ h => List.mem_cons_of_mem _ (List.mem_append_left _ (List.mem_append_right _ h))) (by decide +kernel))) (goodIn_sub (fun _ h => List.mem_cons_of_mem _ (List.mem_append_right _ h)) (by decide +kernel))
set_option maxRecDepth 20000 in
theorem gL_lacks_X4_lacks : GoodIn wsL_lacks (wsV RL 63 RX4 yX4_lacks wsX4_lacks) := goodIn_app (goodIn_of _ (by decide +kernel)) ggL_lacks_X4_lacks
theorem dL_lacks_0 : decode cL_lacks 0 = .ok (.aload_n 3, 1) := by decide +kernel
theorem dL_lacks_1 : decode cL_lacks 1 = .ok (.iconst 0, 1) := by decide +kernel
theorem dL_lacks_2 : decode cL_lacks 2 = .ok (.aload_n 0, 1) := by decide +kernel
theorem dL_lacks_3 : decode cL_lacks 3 = .ok (.iload_n 1, 1) := by decide +kernel
theorem dL_lacks_4 : decode cL_lacks 4 = .ok (.iload_n 2, 1) := by decide +kernel
theorem dL_lacks_5 : decode cL_lacks 5 = .ok (.invokevirtual 63, 3) := by decide +kernel
theorem dL_lacks_8 : decode cL_lacks 8 = .ok (.i2l, 1) := by decide +kernel
theorem dL_lacks_9 : decode cL_lacks 9 = .ok (.lastore, 1) := by decide +kernel
theorem dL_lacks_10 : decode cL_lacks 10 = .ok (.goto 11, 3) := by decide +kernel
theorem dL_lacks_13 : decode cL_lacks 13 = .ok (.astore 4, 2) := by decide +kernel
theorem dL_lacks_15 : decode cL_lacks 15 = .ok (.iconst 1, 1) := by decide +kernel
theorem dL_lacks_16 : decode cL_lacks 16 = .ok (.ireturn, 1) := by decide +kernel
theorem dL_lacks_17 : decode cL_lacks 17 = .ok (.astore 4, 2) := by decide +kernel
theorem dL_lacks_19 : decode cL_lacks 19 = .ok (.iconst 2, 1) := by decide +kernel
theorem dL_lacks_20 : decode cL_lacks 20 = .ok (.ireturn, 1) := by decide +kernel
theorem dL_lacks_21 : decode cL_lacks 21 = .ok (.iconst 0, 1) := by decide +kernel
theorem dL_lacks_22 : decode cL_lacks 22 = .ok (.ireturn, 1) := by decide +kernel
set_option maxRecDepth 20000 in
theorem ggL_bears_X4_bears : GoodIn wsL_bears wsX4_bears := goodIn_ca (goodIn_r _ [6, 7, 8, 9, 5, 10, 11, 12, 13, 14, 15, 16, 17, 18, 19, 20, 21, 22, 23, 24, 25, 26, 27, 28, 29, 30, 31, 32, 33, 34, 35, 36, 37, 38, 39, 40, 41] (by decide +kernel) (by decide +kernel)) (goodIn_sub (fun _ h => List.mem_cons_of_mem _ (List.mem_append_right _ h)) (by decide +kernel))
set_option maxRecDepth 20000 in
theorem gL_bears_X4_bears : GoodIn wsL_bears (wsV RL 66 RX4 yX4_bears wsX4_bears) := goodIn_app (goodIn_of _ (by decide +kernel)) ggL_bears_X4_bears
theorem dL_bears_0 : decode cL_bears 0 = .ok (.aload_n 2, 1) := by decide +kernel
theorem dL_bears_1 : decode cL_bears 1 = .ok (.iconst 0, 1) := by decide +kernel
theorem dL_bears_2 : decode cL_bears 2 = .ok (.aload_n 0, 1) := by decide +kernel
theorem dL_bears_3 : decode cL_bears 3 = .ok (.iload_n 1, 1) := by decide +kernel
theorem dL_bears_4 : decode cL_bears 4 = .ok (.invokevirtual 66, 3) := by decide +kernel
theorem dL_bears_7 : decode cL_bears 7 = .ok (.i2l, 1) := by decide +kernel
theorem dL_bears_8 : decode cL_bears 8 = .ok (.lastore, 1) := by decide +kernel
theorem dL_bears_9 : decode cL_bears 9 = .ok (.goto 6, 3) := by decide +kernel
theorem dL_bears_12 : decode cL_bears 12 = .ok (.astore_n 3, 1) := by decide +kernel
theorem dL_bears_13 : decode cL_bears 13 = .ok (.iconst 1, 1) := by decide +kernel
theorem dL_bears_14 : decode cL_bears 14 = .ok (.ireturn, 1) := by decide +kernel
theorem dL_bears_15 : decode cL_bears 15 = .ok (.iconst 0, 1) := by decide +kernel
theorem dL_bears_16 : decode cL_bears 16 = .ok (.ireturn, 1) := by decide +kernel
set_option maxRecDepth 20000 in
theorem ggL_saves_X4_saves : GoodIn wsL_saves wsX4_saves := goodIn_ca (goodIn_r _ [6, 7, 8, 9, 10, 11, 12, 13, 14, 15, 16, 17, 18, 19, 20, 5, 21, 22, 23, 24, 25, 26, 27, 28, 29, 30, 31, 32, 33, 34, 35, 36, 37, 38, 39, 40, 41, 42, 43, 44, 45, 46, 47, 48, 49, 50, 51, 52, 53, 54, 55, 56, 57, 58, 59, 60, 61, 62, 63, 64, 65, 66, 67, 68, 69, 70, 71, 72, 73, 74, 75] (by decide +kernel) (by decide +kernel)) (goodIn_sub (fun _ h => List.mem_cons_of_mem _ (List.mem_append_right _ h)) (by decide +kernel))
set_option maxRecDepth 20000 in
theorem gL_saves_X4_saves : GoodIn wsL_saves (wsV RL 69 RX4 yX4_saves wsX4_saves) := goodIn_app (goodIn_of _ (by decide +kernel)) ggL_saves_X4_saves
theorem dL_saves_0 : decode cL_saves 0 = .ok (.aload_n 3, 1) := by decide +kernel
theorem dL_saves_1 : decode cL_saves 1 = .ok (.iconst 0, 1) := by decide +kernel
theorem dL_saves_2 : decode cL_saves 2 = .ok (.aload_n 0, 1) := by decide +kernel
theorem dL_saves_3 : decode cL_saves 3 = .ok (.iload_n 1, 1) := by decide +kernel
theorem dL_saves_4 : decode cL_saves 4 = .ok (.iload_n 2, 1) := by decide +kernel
theorem dL_saves_5 : decode cL_saves 5 = .ok (.invokevirtual 69, 3) := by decide +kernel
theorem dL_saves_8 : decode cL_saves 8 = .ok (.i2l, 1) := by decide +kernel
theorem dL_saves_9 : decode cL_saves 9 = .ok (.lastore, 1) := by decide +kernel
theorem dL_saves_10 : decode cL_saves 10 = .ok (.goto 7, 3) := by decide +kernel
theorem dL_saves_13 : decode cL_saves 13 = .ok (.astore 4, 2) := by decide +kernel
theorem dL_saves_15 : decode cL_saves 15 = .ok (.iconst 1, 1) := by decide +kernel
theorem dL_saves_16 : decode cL_saves 16 = .ok (.ireturn, 1) := by decide +kernel
theorem dL_saves_17 : decode cL_saves 17 = .ok (.iconst 0, 1) := by decide +kernel
theorem dL_saves_18 : decode cL_saves 18 = .ok (.ireturn, 1) := by decide +kernel
set_option maxRecDepth 20000 in
theorem ggL_times_X4_times : GoodIn wsL_times wsX4_times := goodIn_ca (goodIn_ca (goodIn_r _ [7, 8, 9, 10, 11, 6, 12, 13, 14, 15, 16, 17, 18, 19, 20, 21, 22, 23, 24, 25, 26, 27, 28, 29, 30, 31, 32, 33, 34, 35, 36, 37, 38, 39, 40, 41, 42, 43, 44, 45, 46, 47, 48, 49, 50, 51, 52, 53, 54, 55, 56, 57, 58, 59, 60, 61, 62, 63, 64, 65, 66, 67, 68, 69, 70, 71, 72, 73, 74, 75, 76, 77, 78, 79, 80, 81, 82, 83, 84, 85, 86, 87, 88, 89, 90, 91, 92, 93, 94, 95, 96, 97, 98, 99, 100, 101, 102, 103, 104, 105, 106, 107, 108, 109] (by decide +kernel) (by decide +kernel)) (goodIn_sub (fun _ h => List.mem_cons_of_mem _ (List.mem_append_left _ (List.mem_append_right _ h))) (by decide +kernel))) (goodIn_sub (fun _ h => List.mem_cons_of_mem _ (List.mem_append_right _ h)) (by decide +kernel))
set_option maxRecDepth 20000 in
theorem gL_times_X4_times : GoodIn wsL_times (wsV RL 72 RX4 yX4_times wsX4_times) := goodIn_app (goodIn_of _ (by decide +kernel)) ggL_times_X4_times
theorem dL_times_0 : decode cL_times 0 = .ok (.aload_n 3, 1) := by decide +kernel
theorem dL_times_1 : decode cL_times 1 = .ok (.iconst 0, 1) := by decide +kernel
theorem dL_times_2 : decode cL_times 2 = .ok (.aload_n 0, 1) := by decide +kernel
theorem dL_times_3 : decode cL_times 3 = .ok (.iload_n 1, 1) := by decide +kernel
theorem dL_times_4 : decode cL_times 4 = .ok (.iload_n 2, 1) := by decide +kernel
theorem dL_times_5 : decode cL_times 5 = .ok (.invokevirtual 72, 3) := by decide +kernel
theorem dL_times_8 : decode cL_times 8 = .ok (.i2l, 1) := by decide +kernel
theorem dL_times_9 : decode cL_times 9 = .ok (.lastore, 1) := by decide +kernel
theorem dL_times_10 : decode cL_times 10 = .ok (.goto 11, 3) := by decide +kernel
theorem dL_times_13 : decode cL_times 13 = .ok (.astore 4, 2) := by decide +kernel
theorem dL_times_15 : decode cL_times 15 = .ok (.iconst 1, 1) := by decide +kernel
theorem dL_times_16 : decode cL_times 16 = .ok (.ireturn, 1) := by decide +kernel
theorem dL_times_17 : decode cL_times 17 = .ok (.astore 4, 2) := by decide +kernel
theorem dL_times_19 : decode cL_times 19 = .ok (.iconst 2, 1) := by decide +kernel
theorem dL_times_20 : decode cL_times 20 = .ok (.ireturn, 1) := by decide +kernel
theorem dL_times_21 : decode cL_times 21 = .ok (.iconst 0, 1) := by decide +kernel
theorem dL_times_22 : decode cL_times 22 = .ok (.ireturn, 1) := by decide +kernel
set_option maxRecDepth 20000 in
theorem ggL_law_X4_init : GoodIn wsL_law wsX4_init := goodIn_r _ [9, 10, 11, 12, 13, 14, 15, 16, 17, 18, 19, 20, 21, 22, 23, 24, 25, 26, 27, 28, 29, 30, 31, 32, 33, 34, 35, 36, 37, 38, 39, 40, 41, 42, 586, 558, 559, 560, 561, 562, 563, 564, 565, 566, 567, 568, 587, 588, 589, 590] (by decide +kernel) (by decide +kernel)
set_option maxRecDepth 20000 in
theorem gL_law_X4_init : GoodIn wsL_law (wsX4_init) := ggL_law_X4_init
set_option maxRecDepth 20000 in
theorem ggL_law_X5_init : GoodIn wsL_law wsX5_init := goodIn_r _ [45, 46, 11, 12, 47, 31, 48, 49, 50, 51, 52, 53, 54, 55, 569, 570, 571, 572, 573, 574, 575, 576, 577, 578, 579, 580, 581, 582, 583, 584, 585] (by decide +kernel) (by decide +kernel)
set_option maxRecDepth 20000 in
theorem gL_law_X5_init : GoodIn wsL_law (wsX5_init) := ggL_law_X5_init
set_option maxRecDepth 20000 in
theorem ggL_law_L_cast : GoodIn wsL_law wsL_cast := goodIn_ca (goodIn_ca (goodIn_ca (goodIn_r _ [59, 60, 61, 62, 63, 64, 65, 2, 66, 67, 68, 19, 16, 69, 70, 71, 72, 73, 74, 75, 76, 77, 78, 79, 80, 81, 82, 83, 84, 85, 15, 86, 87, 88, 89, 90, 32, 91, 92, 93, 94, 558, 559, 560, 561, 562, 563, 564, 565, 566, 567, 568, 586] (by decide +kernel) (by decide +kernel)) (goodIn_sub (fun _ h => List.mem_append_left _ (List.mem_append_left _ (List.mem_append_right _ h))) (by decide +kernel))) (goodIn_sub (fun _ h => List.mem_append_left _ (List.mem_append_right _ h)) (by decide +kernel))) (goodIn_sub (fun _ h => List.mem_append_right _ h) (by decide +kernel))
set_option maxRecDepth 20000 in
theorem gL_law_L_cast : GoodIn wsL_law (va_wsS RL 79 yL_cast wsL_cast) := goodIn_app (goodIn_of _ (by decide +kernel)) ggL_law_L_cast
set_option maxRecDepth 20000 in
theorem ggL_law_X5_cast : GoodIn wsL_law wsX5_cast := goodIn_r _ [98, 99, 47, 48, 100, 101, 102, 5, 103, 104, 105, 106, 107, 108, 109, 110, 111, 112, 113, 114, 115, 116, 117, 569, 570, 571, 572, 573, 574, 575, 576, 577, 578, 579, 580, 581, 582, 583, 584, 585] (by decide +kernel) (by decide +kernel)
set_option maxRecDepth 20000 in
theorem gL_law_X5_cast : GoodIn wsL_law (wsV RL 84 RX5 yX5_cast wsX5_cast) := goodIn_app (goodIn_of _ (by decide +kernel)) ggL_law_X5_cast
set_option maxRecDepth 20000 in
theorem ggL_law_X5_thrown : GoodIn wsL_law wsX5_thrown := goodIn_r _ [121, 99, 569, 570, 571, 572, 573, 574, 575, 576, 577, 578, 579, 580, 581, 582, 583, 584, 585] (by decide +kernel) (by decide +kernel)
set_option maxRecDepth 20000 in
theorem gL_law_X5_thrown : GoodIn wsL_law (wsV RL 85 RX5 yX5_thrown wsX5_thrown) := goodIn_app (goodIn_of _ (by decide +kernel)) ggL_law_X5_thrown
set_option maxRecDepth 20000 in
theorem ggL_law_L_melt : GoodIn wsL_law wsL_melt := goodIn_ca (goodIn_ca (goodIn_r _ [124, 61, 62, 125, 126, 127, 2, 128, 78, 79, 67, 68, 16, 19, 129, 130, 131, 132, 15, 133, 87, 88, 89, 90, 32, 81, 82, 134, 135, 136, 137, 138, 139, 140, 141, 142, 92, 93, 94, 558, 559, 560, 561, 562, 563, 564, 565, 566, 567, 568, 586] (by decide +kernel) (by decide +kernel)) (goodIn_sub (fun _ h => List.mem_append_right _ h) (by decide +kernel))) (goodIn_sub (fun _ h => List.mem_append_left _ (List.mem_append_left _ (List.mem_append_right _ h))) (by decide +kernel))
set_option maxRecDepth 20000 in
theorem gL_law_L_melt : GoodIn wsL_law (va_wsS RL 89 yL_melt wsL_melt) := goodIn_app (goodIn_of _ (by decide +kernel)) ggL_law_L_melt
set_option maxRecDepth 20000 in
theorem ggL_law_X5_melt : GoodIn wsL_law wsX5_melt := goodIn_r _ [146, 99, 48, 47, 147, 104, 105, 5, 106, 107, 108, 109, 110, 111, 112, 113, 569, 570, 571, 572, 573, 574, 575, 576, 577, 578, 579, 580, 581, 582, 583, 584, 585] (by decide +kernel) (by decide +kernel)
set_option maxRecDepth 20000 in
theorem gL_law_X5_melt : GoodIn wsL_law (wsV RL 92 RX5 yX5_melt wsX5_melt) := goodIn_app (goodIn_of _ (by decide +kernel)) ggL_law_X5_melt
set_option maxRecDepth 20000 in
theorem ggL_law_L_buy : GoodIn wsL_law wsL_buy := goodIn_ca (goodIn_ca (goodIn_r _ [150, 61, 62, 151, 152, 153, 2, 154, 78, 79, 67, 68, 19, 558, 559, 560, 561, 562, 563, 564, 565, 566, 567, 568] (by decide +kernel) (by decide +kernel)) (goodIn_sub (fun _ h => List.mem_append_right _ h) (by decide +kernel))) (goodIn_sub (fun _ h => List.mem_append_left _ (List.mem_append_left _ (List.mem_append_right _ h))) (by decide +kernel))
set_option maxRecDepth 20000 in
theorem gL_law_L_buy : GoodIn wsL_law (va_wsS RL 93 yL_buy wsL_buy) := goodIn_app (goodIn_of _ (by decide +kernel)) ggL_law_L_buy
set_option maxRecDepth 20000 in
theorem ggL_law_X5_buy : GoodIn wsL_law wsX5_buy := goodIn_r _ [158, 99, 47, 104, 105, 5, 106, 107, 108, 109, 110, 569, 570, 571, 572, 573, 574, 575, 576, 577, 578, 579, 580, 581, 582, 583, 584, 585] (by decide +kernel) (by decide +kernel)
set_option maxRecDepth 20000 in
theorem gL_law_X5_buy : GoodIn wsL_law (wsV RL 95 RX5 yX5_buy wsX5_buy) := goodIn_app (goodIn_of _ (by decide +kernel)) ggL_law_X5_buy
set_option maxRecDepth 20000 in
theorem ggL_law_L_come : GoodIn wsL_law wsL_come := goodIn_ca (goodIn_ca (goodIn_r _ [161, 61, 62, 162, 163, 164, 2, 165, 78, 79, 67, 68, 166, 18, 17, 167, 168, 169, 170, 171, 172, 11, 12, 173, 14, 15, 174, 175, 176, 28, 29, 30, 31, 32, 558, 559, 560, 561, 562, 563, 564, 565, 566, 567, 568, 591, 592, 593, 594, 595, 596, 586] (by decide +kernel) (by decide +kernel)) (goodIn_sub (fun _ h => List.mem_append_right _ h) (by decide +kernel))) (goodIn_sub (fun _ h => List.mem_append_left _ (List.mem_append_left _ (List.mem_append_right _ h))) (by decide +kernel))
set_option maxRecDepth 20000 in
theorem gL_law_L_come : GoodIn wsL_law (va_wsS RL 96 yL_come wsL_come) := goodIn_app (goodIn_of _ (by decide +kernel)) ggL_law_L_come
set_option maxRecDepth 20000 in
theorem ggL_law_X5_come : GoodIn wsL_law wsX5_come := goodIn_r _ [180, 99, 181, 49, 104, 105, 5, 106, 107, 108, 109, 110, 569, 570, 571, 572, 573, 574, 575, 576, 577, 578, 579, 580, 581, 582, 583, 584, 585] (by decide +kernel) (by decide +kernel)
set_option maxRecDepth 20000 in
theorem gL_law_X5_come : GoodIn wsL_law (wsV RL 98 RX5 yX5_come wsX5_come) := goodIn_app (goodIn_of _ (by decide +kernel)) ggL_law_X5_come
set_option maxRecDepth 20000 in
theorem ggL_law_L_rent : GoodIn wsL_law wsL_rent := goodIn_ca (goodIn_ca (goodIn_ca (goodIn_r _ [184, 60, 61, 62, 185, 186, 187, 2, 188, 67, 68, 16, 189, 190, 191, 192, 73, 74, 18, 70, 71, 72, 75, 76, 77, 78, 79, 83, 84, 85, 15, 86, 87, 88, 89, 90, 32, 193, 194, 195, 196, 197, 198, 199, 200, 201, 202, 203, 204, 142, 92, 93, 94, 558, 559, 560, 561, 562, 563, 564, 565, 566, 567, 568, 591, 592, 593, 594, 595, 596, 586] (by decide +kernel) (by decide +kernel)) (goodIn_sub (fun _ h => List.mem_append_left _ (List.mem_append_left _ (List.mem_append_right _ h))) (by decide +kernel))) (goodIn_sub (fun _ h => List.mem_append_left _ (List.mem_append_right _ h)) (by decide +kernel))) (goodIn_sub (fun _ h => List.mem_append_right _ h) (by decide +kernel))
set_option maxRecDepth 20000 in
theorem gL_law_L_rent : GoodIn wsL_law (va_wsS RL 99 yL_rent wsL_rent) := goodIn_app (goodIn_of _ (by decide +kernel)) ggL_law_L_rent
set_option maxRecDepth 20000 in
theorem ggL_law_X5_rent : GoodIn wsL_law wsX5_rent := goodIn_r _ [208, 99, 209, 210, 211, 5, 212, 181, 104, 105, 106, 101, 102, 103, 107, 108, 109, 110, 114, 115, 116, 117, 48, 213, 214, 215, 216, 217, 218, 219, 220, 202, 203, 204, 569, 570, 571, 572, 573, 574, 575, 576, 577, 578, 579, 580, 581, 582, 583, 584, 585] (by decide +kernel) (by decide +kernel)
set_option maxRecDepth 20000 in
theorem gL_law_X5_rent : GoodIn wsL_law (wsV RL 102 RX5 yX5_rent wsX5_rent) := goodIn_app (goodIn_of _ (by decide +kernel)) ggL_law_X5_rent
set_option maxRecDepth 20000 in
theorem ggL_law_L_giveBack : GoodIn wsL_law wsL_giveBack := goodIn_ca (goodIn_ca (goodIn_ca (goodIn_r _ [223, 60, 61, 62, 224, 225, 226, 2, 227, 67, 68, 16, 189, 190, 191, 192, 73, 74, 18, 70, 71, 72, 75, 76, 77, 78, 79, 83, 84, 85, 15, 86, 87, 88, 89, 90, 32, 228, 229, 230, 231, 197, 198, 199, 200, 201, 202, 203, 204, 142, 92, 93, 94, 591, 592, 593, 594, 595, 596, 558, 559, 560, 561, 562, 563, 564, 565, 566, 567, 568, 586] (by decide +kernel) (by decide +kernel)) (goodIn_sub (fun _ h => List.mem_append_left _ (List.mem_append_left _ (List.mem_append_right _ h))) (by decide +kernel))) (goodIn_sub (fun _ h => List.mem_append_left _ (List.mem_append_right _ h)) (by decide +kernel))) (goodIn_sub (fun _ h => List.mem_append_right _ h) (by decide +kernel))
set_option maxRecDepth 20000 in
theorem gL_law_L_giveBack : GoodIn wsL_law (va_wsS RL 103 yL_giveBack wsL_giveBack) := goodIn_app (goodIn_of _ (by decide +kernel)) ggL_law_L_giveBack
set_option maxRecDepth 20000 in
theorem ggL_law_X5_giveBack : GoodIn wsL_law wsX5_giveBack := goodIn_r _ [235, 99, 209, 210, 211, 5, 212, 181, 104, 105, 106, 101, 102, 103, 107, 108, 109, 110, 213, 214, 215, 114, 115, 116, 117, 48, 216, 217, 218, 219, 220, 202, 203, 204, 569, 570, 571, 572, 573, 574, 575, 576, 577, 578, 579, 580, 581, 582, 583, 584, 585] (by decide +kernel) (by decide +kernel)
set_option maxRecDepth 20000 in
theorem gL_law_X5_giveBack : GoodIn wsL_law (wsV RL 105 RX5 yX5_giveBack wsX5_giveBack) := goodIn_app (goodIn_of _ (by decide +kernel)) ggL_law_X5_giveBack
set_option maxRecDepth 20000 in
theorem ggL_law_L_pay : GoodIn wsL_law wsL_pay := goodIn_ca (goodIn_r _ [238, 60, 239, 240, 241, 2, 242, 243, 202, 203, 204, 244, 189, 190, 191, 192, 73, 74, 18, 591, 592, 593, 594, 595, 596, 558, 559, 560, 561, 562, 563, 564, 565, 566, 567, 568] (by decide +kernel) (by decide +kernel)) (goodIn_sub (fun _ h => List.mem_append_left _ (List.mem_append_right _ h)) (by decide +kernel))
set_option maxRecDepth 20000 in
theorem gL_law_L_pay : GoodIn wsL_law (va_wsS RL 106 yL_pay wsL_pay) := goodIn_app (goodIn_of _ (by decide +kernel)) ggL_law_L_pay
set_option maxRecDepth 20000 in
theorem ggL_law_X5_pay : GoodIn wsL_law wsX5_pay := goodIn_r _ [248, 99, 49, 50, 220, 202, 203, 204, 249, 209, 210, 211, 5, 212, 181, 104, 105, 106, 107, 108, 109, 110, 569, 570, 571, 572, 573, 574, 575, 576, 577, 578, 579, 580, 581, 582, 583, 584, 585] (by decide +kernel) (by decide +kernel)
set_option maxRecDepth 20000 in
theorem gL_law_X5_pay : GoodIn wsL_law (wsV RL 108 RX5 yX5_pay wsX5_pay) := goodIn_app (goodIn_of _ (by decide +kernel)) ggL_law_X5_pay
set_option maxRecDepth 20000 in
theorem ggL_law_L_set : GoodIn wsL_law wsL_set := goodIn_ca (goodIn_ca (goodIn_ca (goodIn_r _ [252, 60, 61, 62, 253, 254, 255, 2, 256, 67, 68, 27, 189, 190, 191, 192, 73, 74, 18, 257, 258, 259, 260, 78, 79, 23, 261, 262, 263, 22, 264, 265, 36, 37, 266, 267, 268, 26, 269, 41, 270, 84, 85, 15, 86, 87, 88, 89, 90, 32, 271, 272, 273, 274, 42, 275, 276, 277, 278, 279, 280, 281, 282, 283, 284, 285, 286, 287, 288, 289, 290, 291, 292, 293, 294, 295, 81, 82, 296, 297, 298, 299, 300, 301, 302, 303, 228, 229, 230, 231, 197, 198, 199, 200, 201, 202, 203, 204, 142, 92, 93, 94, 558, 559, 560, 561, 562, 563, 564, 565, 566, 567, 568, 591, 592, 593, 594, 595, 596, 587, 588, 589, 590, 586] (by decide +kernel) (by decide +kernel)) (goodIn_sub (fun _ h => List.mem_append_left _ (List.mem_append_left _ (List.mem_append_right _ h))) (by decide +kernel))) (goodIn_sub (fun _ h => List.mem_append_left _ (List.mem_append_right _ h)) (by decide +kernel))) (goodIn_sub (fun _ h => List.mem_append_right _ h) (by decide +kernel))
set_option maxRecDepth 20000 in
theorem gL_law_L_set : GoodIn wsL_law (va_wsS RL 109 yL_set wsL_set) := goodIn_app (goodIn_of _ (by decide +kernel)) ggL_law_L_set
set_option maxRecDepth 20000 in
theorem ggL_law_X5_set : GoodIn wsL_law wsX5_set := goodIn_r _ [307, 99, 54, 52, 209, 210, 211, 5, 212, 181, 104, 105, 106, 107, 108, 109, 110, 308, 309, 310, 311, 312, 53, 313, 314, 315, 316, 55, 213, 214, 215, 114, 115, 116, 117, 48, 317, 318, 319, 320, 321, 276, 277, 278, 322, 323, 324, 325, 326, 327, 328, 329, 330, 331, 332, 216, 217, 218, 219, 220, 202, 203, 204, 569, 570, 571, 572, 573, 574, 575, 576, 577, 578, 579, 580, 581, 582, 583, 584, 585] (by decide +kernel) (by decide +kernel)
set_option maxRecDepth 20000 in
theorem gL_law_X5_set : GoodIn wsL_law (wsV RL 111 RX5 yX5_set wsX5_set) := goodIn_app (goodIn_of _ (by decide +kernel)) ggL_law_X5_set
set_option maxRecDepth 20000 in
theorem ggL_law_L_print : GoodIn wsL_law wsL_print := goodIn_ca (goodIn_ca (goodIn_ca (goodIn_r _ [335, 60, 61, 62, 336, 337, 338, 2, 339, 78, 79, 67, 68, 340, 189, 190, 191, 192, 73, 74, 18, 296, 297, 298, 15, 299, 32, 341, 342, 343, 344, 138, 139, 140, 141, 87, 88, 89, 90, 142, 92, 93, 94, 591, 592, 593, 594, 595, 596, 558, 559, 560, 561, 562, 563, 564, 565, 566, 567, 568, 586] (by decide +kernel) (by decide +kernel)) (goodIn_sub (fun _ h => List.mem_append_right _ h) (by decide +kernel))) (goodIn_sub (fun _ h => List.mem_append_left _ (List.mem_append_left _ (List.mem_append_right _ h))) (by decide +kernel))) (goodIn_sub (fun _ h => List.mem_append_left _ (List.mem_append_right _ h)) (by decide +kernel))
set_option maxRecDepth 20000 in
theorem gL_law_L_print : GoodIn wsL_law (va_wsS RL 112 yL_print wsL_print) := goodIn_app (goodIn_of _ (by decide +kernel)) ggL_law_L_print
set_option maxRecDepth 20000 in
theorem ggL_law_X5_print : GoodIn wsL_law wsX5_print := goodIn_r _ [348, 99, 48, 51, 349, 209, 210, 211, 5, 212, 181, 104, 105, 106, 107, 108, 109, 110, 326, 327, 328, 329, 330, 331, 332, 569, 570, 571, 572, 573, 574, 575, 576, 577, 578, 579, 580, 581, 582, 583, 584, 585] (by decide +kernel) (by decide +kernel)
set_option maxRecDepth 20000 in
theorem gL_law_X5_print : GoodIn wsL_law (wsV RL 114 RX5 yX5_print wsX5_print) := goodIn_app (goodIn_of _ (by decide +kernel)) ggL_law_X5_print
set_option maxRecDepth 20000 in
theorem ggL_law_L_distribute : GoodIn wsL_law wsL_distribute := goodIn_ca (goodIn_r _ [352, 60, 353, 354, 355, 2, 356, 189, 190, 191, 192, 73, 74, 18, 296, 297, 298, 15, 299, 32, 83, 84, 85, 86, 87, 88, 89, 90, 193, 194, 195, 196, 197, 198, 199, 200, 201, 202, 203, 204, 142, 92, 93, 94, 591, 592, 593, 594, 595, 596, 558, 559, 560, 561, 562, 563, 564, 565, 566, 567, 568, 586] (by decide +kernel) (by decide +kernel)) (goodIn_sub (fun _ h => List.mem_append_left _ (List.mem_append_right _ h)) (by decide +kernel))
set_option maxRecDepth 20000 in
theorem gL_law_L_distribute : GoodIn wsL_law (va_wsS RL 115 yL_distribute wsL_distribute) := goodIn_app (goodIn_of _ (by decide +kernel)) ggL_law_L_distribute
set_option maxRecDepth 20000 in
theorem ggL_law_X5_distribute : GoodIn wsL_law wsX5_distribute := goodIn_r _ [360, 99, 48, 52, 209, 210, 211, 5, 212, 181, 104, 105, 106, 107, 108, 109, 110, 326, 327, 328, 329, 330, 331, 332, 213, 214, 215, 569, 570, 571, 572, 573, 574, 575, 576, 577, 578, 579, 580, 581, 582, 583, 584, 585] (by decide +kernel) (by decide +kernel)
set_option maxRecDepth 20000 in
theorem gL_law_X5_distribute : GoodIn wsL_law (wsV RL 117 RX5 yX5_distribute wsX5_distribute) := goodIn_app (goodIn_of _ (by decide +kernel)) ggL_law_X5_distribute
set_option maxRecDepth 20000 in
theorem ggL_law_L_pass : GoodIn wsL_law wsL_pass := goodIn_ca (goodIn_r _ [363, 61, 364, 365, 366, 2, 367, 78, 79, 368, 18, 369, 370, 371, 168, 372, 174, 175, 373, 297, 298, 15, 299, 32, 558, 559, 560, 561, 562, 563, 564, 565, 566, 567, 568, 591, 592, 593, 594, 595, 596, 586] (by decide +kernel) (by decide +kernel)) (goodIn_sub (fun _ h => List.mem_append_right _ h) (by decide +kernel))
set_option maxRecDepth 20000 in
theorem gL_law_L_pass : GoodIn wsL_law (va_wsS RL 118 yL_pass wsL_pass) := goodIn_app (goodIn_of _ (by decide +kernel)) ggL_law_L_pass
set_option maxRecDepth 20000 in
theorem ggL_law_X5_pass : GoodIn wsL_law wsX5_pass := goodIn_r _ [377, 99, 181, 50, 378, 104, 105, 5, 106, 107, 108, 109, 110, 213, 214, 215, 329, 330, 331, 332, 48, 326, 327, 328, 569, 570, 571, 572, 573, 574, 575, 576, 577, 578, 579, 580, 581, 582, 583, 584, 585] (by decide +kernel) (by decide +kernel)
set_option maxRecDepth 20000 in
theorem gL_law_X5_pass : GoodIn wsL_law (wsV RL 120 RX5 yX5_pass wsX5_pass) := goodIn_app (goodIn_of _ (by decide +kernel)) ggL_law_X5_pass
set_option maxRecDepth 20000 in
theorem ggL_law_L_sorts : GoodIn wsL_law wsL_sorts := goodIn_ca (goodIn_r _ [381, 60, 382, 383, 384, 2, 385, 73, 74, 16, 189, 190, 191, 192, 18, 70, 71, 72, 386, 88, 89, 15, 90, 32, 558, 559, 560, 561, 562, 563, 564, 565, 566, 567, 568, 591, 592, 593, 594, 595, 596, 586] (by decide +kernel) (by decide +kernel)) (goodIn_sub (fun _ h => List.mem_append_left _ (List.mem_append_right _ h)) (by decide +kernel))
set_option maxRecDepth 20000 in
theorem gL_law_L_sorts : GoodIn wsL_law (va_wsS RL 121 yL_sorts wsL_sorts) := goodIn_app (goodIn_of _ (by decide +kernel)) ggL_law_L_sorts
set_option maxRecDepth 20000 in
theorem ggL_law_X5_sorts : GoodIn wsL_law wsX5_sorts := goodIn_r _ [390, 99, 48, 209, 210, 211, 5, 212, 181, 104, 105, 106, 101, 102, 103, 213, 214, 215, 107, 108, 109, 110, 569, 570, 571, 572, 573, 574, 575, 576, 577, 578, 579, 580, 581, 582, 583, 584, 585] (by decide +kernel) (by decide +kernel)
set_option maxRecDepth 20000 in
theorem gL_law_X5_sorts : GoodIn wsL_law (wsV RL 123 RX5 yX5_sorts wsX5_sorts) := goodIn_app (goodIn_of _ (by decide +kernel)) ggL_law_X5_sorts
set_option maxRecDepth 20000 in
theorem ggL_law_L_printer : GoodIn wsL_law wsL_printer := goodIn_ca (goodIn_r _ [393, 60, 394, 395, 396, 2, 397, 73, 74, 189, 190, 191, 192, 18, 398, 399, 400, 168, 401, 176, 402, 174, 175, 403, 404, 373, 297, 298, 15, 299, 32, 405, 406, 407, 408, 558, 559, 560, 561, 562, 563, 564, 565, 566, 567, 568, 591, 592, 593, 594, 595, 596, 586] (by decide +kernel) (by decide +kernel)) (goodIn_sub (fun _ h => List.mem_append_left _ (List.mem_append_right _ h)) (by decide +kernel))
set_option maxRecDepth 20000 in
theorem gL_law_L_printer : GoodIn wsL_law (va_wsS RL 124 yL_printer wsL_printer) := goodIn_app (goodIn_of _ (by decide +kernel)) ggL_law_L_printer
set_option maxRecDepth 20000 in
theorem ggL_law_X5_printer : GoodIn wsL_law wsX5_printer := goodIn_r _ [412, 99, 209, 210, 211, 5, 212, 181, 104, 105, 106, 413, 414, 415, 416, 31, 49, 50, 51, 52, 213, 214, 215, 329, 330, 331, 332, 48, 326, 327, 328, 417, 418, 419, 420, 107, 108, 109, 110, 569, 570, 571, 572, 573, 574, 575, 576, 577, 578, 579, 580, 581, 582, 583, 584, 585] (by decide +kernel) (by decide +kernel)
set_option maxRecDepth 20000 in
theorem gL_law_X5_printer : GoodIn wsL_law (wsV RL 126 RX5 yX5_printer wsX5_printer) := goodIn_app (goodIn_of _ (by decide +kernel)) ggL_law_X5_printer
set_option maxRecDepth 20000 in
theorem ggL_law_L_count : GoodIn wsL_law wsL_count := goodIn_ca (goodIn_r _ [423, 60, 424, 425, 426, 2, 427, 73, 74, 428, 429, 430, 431, 368, 19, 244, 16, 166, 69, 340, 129, 296, 297, 298, 15, 299, 32, 558, 559, 560, 561, 562, 563, 564, 565, 566, 567, 568, 586] (by decide +kernel) (by decide +kernel)) (goodIn_sub (fun _ h => List.mem_append_left _ (List.mem_append_right _ h)) (by decide +kernel))
set_option maxRecDepth 20000 in
theorem gL_law_L_count : GoodIn wsL_law (va_wsS RL 127 yL_count wsL_count) := goodIn_app (goodIn_of _ (by decide +kernel)) ggL_law_L_count
set_option maxRecDepth 20000 in
theorem ggL_law_X5_count : GoodIn wsL_law wsX5_count := goodIn_r _ [435, 99, 104, 105, 5, 106, 436, 437, 438, 439, 31, 378, 47, 249, 181, 100, 349, 147, 329, 330, 331, 332, 48, 107, 108, 109, 110, 569, 570, 571, 572, 573, 574, 575, 576, 577, 578, 579, 580, 581, 582, 583, 584, 585] (by decide +kernel) (by decide +kernel)
set_option maxRecDepth 20000 in
theorem gL_law_X5_count : GoodIn wsL_law (wsV RL 129 RX5 yX5_count wsX5_count) := goodIn_app (goodIn_of _ (by decide +kernel)) ggL_law_X5_count
set_option maxRecDepth 20000 in
theorem ggL_law_L_takes : GoodIn wsL_law wsL_takes := goodIn_ca (goodIn_ca (goodIn_r _ [442, 60, 61, 443, 444, 445, 2, 446, 27, 189, 190, 191, 192, 73, 74, 18, 257, 258, 259, 260, 78, 79, 23, 261, 262, 263, 22, 264, 265, 36, 37, 266, 267, 268, 26, 269, 41, 270, 84, 85, 15, 86, 87, 88, 89, 90, 32, 271, 272, 273, 274, 42, 275, 276, 277, 278, 279, 280, 281, 282, 283, 284, 285, 286, 287, 288, 289, 290, 291, 292, 293, 294, 295, 81, 82, 558, 559, 560, 561, 562, 563, 564, 565, 566, 567, 568, 591, 592, 593, 594, 595, 596, 587, 588, 589, 590, 586] (by decide +kernel) (by decide +kernel)) (goodIn_sub (fun _ h => List.mem_append_left _ (List.mem_append_right _ h)) (by decide +kernel))) (goodIn_sub (fun _ h => List.mem_append_right _ h) (by decide +kernel))
set_option maxRecDepth 20000 in
theorem gL_law_L_takes : GoodIn wsL_law (va_wsS RL 130 yL_takes wsL_takes) := goodIn_app (goodIn_of _ (by decide +kernel)) ggL_law_L_takes
set_option maxRecDepth 20000 in
theorem ggL_law_X5_takes : GoodIn wsL_law wsX5_takes := goodIn_r _ [450, 99, 209, 210, 211, 5, 212, 181, 104, 105, 106, 107, 108, 109, 110, 308, 309, 310, 311, 312, 53, 313, 314, 315, 316, 55, 213, 214, 215, 114, 115, 116, 117, 48, 317, 318, 319, 320, 54, 321, 276, 277, 278, 322, 323, 324, 325, 569, 570, 571, 572, 573, 574, 575, 576, 577, 578, 579, 580, 581, 582, 583, 584, 585] (by decide +kernel) (by decide +kernel)
set_option maxRecDepth 20000 in
theorem gL_law_X5_takes : GoodIn wsL_law (wsV RL 132 RX5 yX5_takes wsX5_takes) := goodIn_app (goodIn_of _ (by decide +kernel)) ggL_law_X5_takes
set_option maxRecDepth 20000 in
theorem ggL_law_L_lacks : GoodIn wsL_law wsL_lacks := goodIn_ca (goodIn_ca (goodIn_r _ [453, 60, 61, 454, 455, 456, 2, 457, 189, 190, 191, 192, 73, 74, 18, 257, 258, 259, 260, 78, 79, 23, 261, 262, 263, 22, 264, 265, 36, 37, 458, 459, 460, 461, 291, 292, 293, 294, 83, 84, 85, 15, 86, 87, 88, 89, 90, 32, 591, 592, 593, 594, 595, 596, 558, 559, 560, 561, 562, 563, 564, 565, 566, 567, 568, 587, 588, 586] (by decide +kernel) (by decide +kernel)) (goodIn_sub (fun _ h => List.mem_append_left _ (List.mem_append_right _ h)) (by decide +kernel))) (goodIn_sub (fun _ h => List.mem_append_right _ h) (by decide +kernel))
set_option maxRecDepth 20000 in
theorem gL_law_L_lacks : GoodIn wsL_law (va_wsS RL 133 yL_lacks wsL_lacks) := goodIn_app (goodIn_of _ (by decide +kernel)) ggL_law_L_lacks
set_option maxRecDepth 20000 in
theorem ggL_law_X5_lacks : GoodIn wsL_law wsX5_lacks := goodIn_r _ [465, 99, 312, 53, 209, 210, 211, 5, 212, 181, 104, 105, 106, 107, 108, 109, 110, 308, 309, 310, 311, 213, 214, 215, 114, 115, 116, 117, 48, 569, 570, 571, 572, 573, 574, 575, 576, 577, 578, 579, 580, 581, 582, 583, 584, 585] (by decide +kernel) (by decide +kernel)
set_option maxRecDepth 20000 in
theorem gL_law_X5_lacks : GoodIn wsL_law (wsV RL 135 RX5 yX5_lacks wsX5_lacks) := goodIn_app (goodIn_of _ (by decide +kernel)) ggL_law_X5_lacks
set_option maxRecDepth 20000 in
theorem ggL_law_L_bears : GoodIn wsL_law wsL_bears := goodIn_ca (goodIn_r _ [468, 60, 469, 470, 471, 2, 472, 189, 190, 191, 192, 73, 74, 18, 473, 474, 475, 15, 476, 32, 477, 478, 203, 479, 591, 592, 593, 594, 595, 596, 558, 559, 560, 561, 562, 563, 564, 565, 566, 567, 568, 586] (by decide +kernel) (by decide +kernel)) (goodIn_sub (fun _ h => List.mem_append_left _ (List.mem_append_right _ h)) (by decide +kernel))
set_option maxRecDepth 20000 in
theorem gL_law_L_bears : GoodIn wsL_law (va_wsS RL 136 yL_bears wsL_bears) := goodIn_app (goodIn_of _ (by decide +kernel)) ggL_law_L_bears
set_option maxRecDepth 20000 in
theorem ggL_law_X5_bears : GoodIn wsL_law wsX5_bears := goodIn_r _ [483, 99, 48, 484, 478, 203, 479, 209, 210, 211, 5, 212, 181, 104, 105, 106, 107, 108, 109, 110, 326, 327, 328, 569, 570, 571, 572, 573, 574, 575, 576, 577, 578, 579, 580, 581, 582, 583, 584, 585] (by decide +kernel) (by decide +kernel)
set_option maxRecDepth 20000 in
theorem gL_law_X5_bears : GoodIn wsL_law (wsV RL 138 RX5 yX5_bears wsX5_bears) := goodIn_app (goodIn_of _ (by decide +kernel)) ggL_law_X5_bears
set_option maxRecDepth 20000 in
theorem ggL_law_L_saves : GoodIn wsL_law wsL_saves := goodIn_ca (goodIn_r _ [487, 61, 488, 489, 490, 2, 491, 27, 492, 493, 494, 26, 495, 41, 275, 276, 277, 278, 257, 258, 259, 260, 78, 79, 23, 261, 262, 263, 22, 264, 265, 36, 37, 271, 272, 273, 274, 42, 279, 280, 281, 282, 283, 284, 285, 286, 287, 288, 289, 290, 291, 292, 293, 294, 295, 81, 82, 496, 497, 498, 499, 558, 559, 560, 561, 562, 563, 564, 565, 566, 567, 568, 589, 590, 587, 588] (by decide +kernel) (by decide +kernel)) (goodIn_sub (fun _ h => List.mem_append_right _ h) (by decide +kernel))
set_option maxRecDepth 20000 in
theorem gL_law_L_saves : GoodIn wsL_law (va_wsS RL 139 yL_saves wsL_saves) := goodIn_app (goodIn_of _ (by decide +kernel)) ggL_law_L_saves
set_option maxRecDepth 20000 in
theorem ggL_law_X5_saves : GoodIn wsL_law wsX5_saves := goodIn_r _ [503, 99, 31, 55, 54, 308, 309, 310, 5, 311, 312, 53, 107, 108, 109, 110, 321, 276, 277, 278, 317, 318, 319, 320, 322, 323, 324, 325, 569, 570, 571, 572, 573, 574, 575, 576, 577, 578, 579, 580, 581, 582, 583, 584, 585] (by decide +kernel) (by decide +kernel)
set_option maxRecDepth 20000 in
theorem gL_law_X5_saves : GoodIn wsL_law (wsV RL 141 RX5 yX5_saves wsX5_saves) := goodIn_app (goodIn_of _ (by decide +kernel)) ggL_law_X5_saves
set_option maxRecDepth 20000 in
theorem ggL_law_L_times : GoodIn wsL_law wsL_times := goodIn_ca (goodIn_ca (goodIn_r _ [506, 60, 61, 507, 508, 509, 2, 510, 27, 189, 190, 191, 192, 73, 74, 18, 257, 258, 259, 260, 78, 79, 23, 261, 262, 263, 22, 264, 265, 36, 37, 266, 267, 268, 26, 269, 41, 270, 84, 85, 15, 86, 87, 88, 89, 90, 32, 511, 512, 513, 514, 515, 272, 273, 274, 42, 275, 276, 277, 278, 279, 280, 281, 282, 283, 284, 285, 286, 287, 288, 289, 290, 291, 292, 293, 294, 295, 81, 82, 516, 517, 518, 519, 520, 521, 202, 203, 204, 558, 559, 560, 561, 562, 563, 564, 565, 566, 567, 568, 591, 592, 593, 594, 595, 596, 587, 588, 589, 590, 586] (by decide +kernel) (by decide +kernel)) (goodIn_sub (fun _ h => List.mem_append_left _ (List.mem_append_right _ h)) (by decide +kernel))) (goodIn_sub (fun _ h => List.mem_append_right _ h) (by decide +kernel))
set_option maxRecDepth 20000 in
theorem gL_law_L_times : GoodIn wsL_law (va_wsS RL 142 yL_times wsL_times) := goodIn_app (goodIn_of _ (by decide +kernel)) ggL_law_L_times
set_option maxRecDepth 20000 in
theorem ggL_law_X5_times : GoodIn wsL_law wsX5_times := goodIn_r _ [525, 99, 209, 210, 211, 5, 212, 181, 104, 105, 106, 107, 108, 109, 110, 308, 309, 310, 311, 312, 53, 313, 314, 315, 316, 55, 213, 214, 215, 114, 115, 116, 117, 48, 317, 318, 319, 320, 54, 321, 276, 277, 278, 322, 323, 324, 325, 569, 570, 571, 572, 573, 574, 575, 576, 577, 578, 579, 580, 581, 582, 583, 584, 585] (by decide +kernel) (by decide +kernel)
set_option maxRecDepth 20000 in
theorem gL_law_X5_times : GoodIn wsL_law (wsV RL 144 RX5 yX5_times wsX5_times) := goodIn_app (goodIn_of _ (by decide +kernel)) ggL_law_X5_times
set_option maxRecDepth 20000 in
theorem ggL_law_X4_mean : GoodIn wsL_law wsX4_mean := goodIn_r _ [529, 16, 296, 297, 298, 15, 299, 32, 530, 406, 407, 408, 558, 559, 560, 561, 562, 563, 564, 565, 566, 567, 568, 586] (by decide +kernel) (by decide +kernel)
set_option maxRecDepth 20000 in
theorem gL_law_X4_mean : GoodIn wsL_law (wsV RL 145 RX4 yX4_mean wsX4_mean) := goodIn_app (goodIn_of _ (by decide +kernel)) ggL_law_X4_mean
set_option maxRecDepth 20000 in
theorem ggL_law_X5_mean : GoodIn wsL_law wsX5_mean := goodIn_r _ [534, 99, 329, 330, 331, 5, 332, 48, 417, 418, 419, 420, 569, 570, 571, 572, 573, 574, 575, 576, 577, 578, 579, 580, 581, 582, 583, 584, 585] (by decide +kernel) (by decide +kernel)
set_option maxRecDepth 20000 in
theorem gL_law_X5_mean : GoodIn wsL_law (wsV RL 149 RX5 yX5_mean wsX5_mean) := goodIn_app (goodIn_of _ (by decide +kernel)) ggL_law_X5_mean
set_option maxRecDepth 20000 in
theorem ggL_law_X4_digest : GoodIn wsL_law wsX4_digest := goodIn_r _ [538, 539, 540, 16, 18, 428, 429, 430, 2, 431, 368, 19, 244, 166, 69, 340, 129, 296, 297, 298, 15, 299, 32, 541, 542, 543, 544, 545, 546, 547, 548, 168, 549, 550, 551, 399, 400, 401, 176, 402, 174, 175, 403, 404, 373, 405, 406, 407, 408, 558, 559, 560, 561, 562, 563, 564, 565, 566, 567, 568, 591, 592, 593, 594, 595, 596, 586] (by decide +kernel) (by decide +kernel)
set_option maxRecDepth 20000 in
theorem gL_law_X4_digest : GoodIn wsL_law (wsV RL 150 RX4 yX4_digest wsX4_digest) := goodIn_app (goodIn_of _ (by decide +kernel)) ggL_law_X4_digest
set_option maxRecDepth 20000 in
theorem ggL_law_X5_digest : GoodIn wsL_law wsX5_digest := goodIn_r _ [555, 99, 556, 557, 181, 48, 436, 437, 438, 5, 439, 31, 378, 47, 249, 100, 349, 147, 329, 330, 331, 332, 413, 414, 415, 416, 49, 50, 51, 52, 213, 214, 215, 326, 327, 328, 417, 418, 419, 420, 569, 570, 571, 572, 573, 574, 575, 576, 577, 578, 579, 580, 581, 582, 583, 584, 585] (by decide +kernel) (by decide +kernel)
set_option maxRecDepth 20000 in
theorem gL_law_X5_digest : GoodIn wsL_law (wsV RL 154 RX5 yX5_digest wsX5_digest) := goodIn_app (goodIn_of _ (by decide +kernel)) ggL_law_X5_digest
theorem dL_law_0 : decode cL_law 0 = .ok (.new 8, 3) := by decide +kernel
theorem dL_law_3 : decode cL_law 3 = .ok (.dup, 1) := by decide +kernel
theorem dL_law_4 : decode cL_law 4 = .ok (.invokespecial 75, 3) := by decide +kernel
theorem dL_law_7 : decode cL_law 7 = .ok (.astore_n 1, 1) := by decide +kernel
theorem dL_law_8 : decode cL_law 8 = .ok (.new 76, 3) := by decide +kernel
theorem dL_law_11 : decode cL_law 11 = .ok (.dup, 1) := by decide +kernel
theorem dL_law_12 : decode cL_law 12 = .ok (.invokespecial 78, 3) := by decide +kernel
theorem dL_law_15 : decode cL_law 15 = .ok (.astore_n 2, 1) := by decide +kernel
theorem dL_law_16 : decode cL_law 16 = .ok (.iconst 1, 1) := by decide +kernel
theorem dL_law_17 : decode cL_law 17 = .ok (.newarray .long, 2) := by decide +kernel
theorem dL_law_19 : decode cL_law 19 = .ok (.astore_n 3, 1) := by decide +kernel
theorem dL_law_20 : decode cL_law 20 = .ok (.iconst 0, 1) := by decide +kernel
theorem dL_law_21 : decode cL_law 21 = .ok (.istore 4, 2) := by decide +kernel
theorem dL_law_23 : decode cL_law 23 = .ok (.iload 4, 2) := by decide +kernel
theorem dL_law_25 : decode cL_law 25 = .ok (.aload_n 0, 1) := by decide +kernel
theorem dL_law_26 : decode cL_law 26 = .ok (.arraylength, 1) := by decide +kernel
theorem dL_law_27 : decode cL_law 27 = .ok (.iconst 4, 1) := by decide +kernel
theorem dL_law_28 : decode cL_law 28 = .ok (.isub, 1) := by decide +kernel
theorem dL_law_29 : decode cL_law 29 = .ok (.if_icmp .gt 1400, 3) := by decide +kernel
theorem dL_law_32 : decode cL_law 32 = .ok (.aload_n 0, 1) := by decide +kernel
theorem dL_law_33 : decode cL_law 33 = .ok (.iload 4, 2) := by decide +kernel
theorem dL_law_35 : decode cL_law 35 = .ok (.iaload, 1) := by decide +kernel
theorem dL_law_36 : decode cL_law 36 = .ok (.bipush 31, 2) := by decide +kernel
theorem dL_law_38 : decode cL_law 38 = .ok (.iand, 1) := by decide +kernel
theorem dL_law_39 : decode cL_law 39 = .ok (.tableswitch 1384 0 20 #[97, 165, 221, 277, 333, 413, 493, 549, 617, 685, 741, 797, 877, 945, 1001, 1069, 1137, 1193, 1261, 1329, 1370], 97) := by decide +kernel
theorem dL_law_136 : decode cL_law 136 = .ok (.aload_n 1, 1) := by decide +kernel
theorem dL_law_137 : decode cL_law 137 = .ok (.aload_n 0, 1) := by decide +kernel
theorem dL_law_138 : decode cL_law 138 = .ok (.iload 4, 2) := by decide +kernel
theorem dL_law_140 : decode cL_law 140 = .ok (.iconst 1, 1) := by decide +kernel
theorem dL_law_141 : decode cL_law 141 = .ok (.iadd, 1) := by decide +kernel
theorem dL_law_142 : decode cL_law 142 = .ok (.iaload, 1) := by decide +kernel
theorem dL_law_143 : decode cL_law 143 = .ok (.aload_n 0, 1) := by decide +kernel
theorem dL_law_144 : decode cL_law 144 = .ok (.iload 4, 2) := by decide +kernel
theorem dL_law_146 : decode cL_law 146 = .ok (.iconst 2, 1) := by decide +kernel
theorem dL_law_147 : decode cL_law 147 = .ok (.iadd, 1) := by decide +kernel
theorem dL_law_148 : decode cL_law 148 = .ok (.iaload, 1) := by decide +kernel
theorem dL_law_149 : decode cL_law 149 = .ok (.aload_n 3, 1) := by decide +kernel
theorem dL_law_150 : decode cL_law 150 = .ok (.invokestatic 79, 3) := by decide +kernel
theorem dL_law_153 : decode cL_law 153 = .ok (.istore 5, 2) := by decide +kernel
theorem dL_law_155 : decode cL_law 155 = .ok (.aload_n 2, 1) := by decide +kernel
theorem dL_law_156 : decode cL_law 156 = .ok (.aload_n 0, 1) := by decide +kernel
theorem dL_law_157 : decode cL_law 157 = .ok (.iload 4, 2) := by decide +kernel
theorem dL_law_159 : decode cL_law 159 = .ok (.iconst 1, 1) := by decide +kernel
theorem dL_law_160 : decode cL_law 160 = .ok (.iadd, 1) := by decide +kernel
theorem dL_law_161 : decode cL_law 161 = .ok (.iaload, 1) := by decide +kernel
theorem dL_law_162 : decode cL_law 162 = .ok (.aload_n 0, 1) := by decide +kernel
theorem dL_law_163 : decode cL_law 163 = .ok (.iload 4, 2) := by decide +kernel
theorem dL_law_165 : decode cL_law 165 = .ok (.iconst 2, 1) := by decide +kernel
theorem dL_law_166 : decode cL_law 166 = .ok (.iadd, 1) := by decide +kernel
theorem dL_law_167 : decode cL_law 167 = .ok (.iaload, 1) := by decide +kernel
theorem dL_law_168 : decode cL_law 168 = .ok (.invokevirtual 84, 3) := by decide +kernel
theorem dL_law_171 : decode cL_law 171 = .ok (.istore 6, 2) := by decide +kernel
theorem dL_law_173 : decode cL_law 173 = .ok (.aload_n 2, 1) := by decide +kernel
theorem dL_law_174 : decode cL_law 174 = .ok (.invokevirtual 85, 3) := by decide +kernel
theorem dL_law_177 : decode cL_law 177 = .ok (.iload 5, 2) := by decide +kernel
theorem dL_law_179 : decode cL_law 179 = .ok (.if_icmp .eq 5, 3) := by decide +kernel
theorem dL_law_182 : decode cL_law 182 = .ok (.iconst 0, 1) := by decide +kernel
theorem dL_law_183 : decode cL_law 183 = .ok (.ireturn, 1) := by decide +kernel
theorem dL_law_184 : decode cL_law 184 = .ok (.iload 5, 2) := by decide +kernel
theorem dL_law_186 : decode cL_law 186 = .ok (.ifCond .ne 15, 3) := by decide +kernel
theorem dL_law_189 : decode cL_law 189 = .ok (.aload_n 3, 1) := by decide +kernel
theorem dL_law_190 : decode cL_law 190 = .ok (.iconst 0, 1) := by decide +kernel
theorem dL_law_191 : decode cL_law 191 = .ok (.laload, 1) := by decide +kernel
theorem dL_law_192 : decode cL_law 192 = .ok (.iload 6, 2) := by decide +kernel
theorem dL_law_194 : decode cL_law 194 = .ok (.i2l, 1) := by decide +kernel
theorem dL_law_195 : decode cL_law 195 = .ok (.lcmp, 1) := by decide +kernel
theorem dL_law_196 : decode cL_law 196 = .ok (.ifCond .eq 5, 3) := by decide +kernel
theorem dL_law_199 : decode cL_law 199 = .ok (.iconst 0, 1) := by decide +kernel
theorem dL_law_200 : decode cL_law 200 = .ok (.ireturn, 1) := by decide +kernel
theorem dL_law_201 : decode cL_law 201 = .ok (.goto 1222, 3) := by decide +kernel
theorem dL_law_204 : decode cL_law 204 = .ok (.aload_n 1, 1) := by decide +kernel
theorem dL_law_205 : decode cL_law 205 = .ok (.aload_n 0, 1) := by decide +kernel
theorem dL_law_206 : decode cL_law 206 = .ok (.iload 4, 2) := by decide +kernel
theorem dL_law_208 : decode cL_law 208 = .ok (.iconst 1, 1) := by decide +kernel
theorem dL_law_209 : decode cL_law 209 = .ok (.iadd, 1) := by decide +kernel
theorem dL_law_210 : decode cL_law 210 = .ok (.iaload, 1) := by decide +kernel
theorem dL_law_211 : decode cL_law 211 = .ok (.aload_n 3, 1) := by decide +kernel
theorem dL_law_212 : decode cL_law 212 = .ok (.invokestatic 89, 3) := by decide +kernel
theorem dL_law_215 : decode cL_law 215 = .ok (.istore 5, 2) := by decide +kernel
theorem dL_law_217 : decode cL_law 217 = .ok (.aload_n 2, 1) := by decide +kernel
theorem dL_law_218 : decode cL_law 218 = .ok (.aload_n 0, 1) := by decide +kernel
theorem dL_law_219 : decode cL_law 219 = .ok (.iload 4, 2) := by decide +kernel
theorem dL_law_221 : decode cL_law 221 = .ok (.iconst 1, 1) := by decide +kernel
theorem dL_law_222 : decode cL_law 222 = .ok (.iadd, 1) := by decide +kernel
theorem dL_law_223 : decode cL_law 223 = .ok (.iaload, 1) := by decide +kernel
theorem dL_law_224 : decode cL_law 224 = .ok (.invokevirtual 92, 3) := by decide +kernel
theorem dL_law_227 : decode cL_law 227 = .ok (.istore 6, 2) := by decide +kernel
theorem dL_law_229 : decode cL_law 229 = .ok (.aload_n 2, 1) := by decide +kernel
theorem dL_law_230 : decode cL_law 230 = .ok (.invokevirtual 85, 3) := by decide +kernel
theorem dL_law_233 : decode cL_law 233 = .ok (.iload 5, 2) := by decide +kernel
theorem dL_law_235 : decode cL_law 235 = .ok (.if_icmp .eq 5, 3) := by decide +kernel
theorem dL_law_238 : decode cL_law 238 = .ok (.iconst 0, 1) := by decide +kernel
theorem dL_law_239 : decode cL_law 239 = .ok (.ireturn, 1) := by decide +kernel
theorem dL_law_240 : decode cL_law 240 = .ok (.iload 5, 2) := by decide +kernel
theorem dL_law_242 : decode cL_law 242 = .ok (.ifCond .ne 15, 3) := by decide +kernel
theorem dL_law_245 : decode cL_law 245 = .ok (.aload_n 3, 1) := by decide +kernel
theorem dL_law_246 : decode cL_law 246 = .ok (.iconst 0, 1) := by decide +kernel
theorem dL_law_247 : decode cL_law 247 = .ok (.laload, 1) := by decide +kernel
theorem dL_law_248 : decode cL_law 248 = .ok (.iload 6, 2) := by decide +kernel
theorem dL_law_250 : decode cL_law 250 = .ok (.i2l, 1) := by decide +kernel
theorem dL_law_251 : decode cL_law 251 = .ok (.lcmp, 1) := by decide +kernel
theorem dL_law_252 : decode cL_law 252 = .ok (.ifCond .eq 5, 3) := by decide +kernel
theorem dL_law_255 : decode cL_law 255 = .ok (.iconst 0, 1) := by decide +kernel
theorem dL_law_256 : decode cL_law 256 = .ok (.ireturn, 1) := by decide +kernel
theorem dL_law_257 : decode cL_law 257 = .ok (.goto 1166, 3) := by decide +kernel
theorem dL_law_260 : decode cL_law 260 = .ok (.aload_n 1, 1) := by decide +kernel
theorem dL_law_261 : decode cL_law 261 = .ok (.aload_n 0, 1) := by decide +kernel
theorem dL_law_262 : decode cL_law 262 = .ok (.iload 4, 2) := by decide +kernel
theorem dL_law_264 : decode cL_law 264 = .ok (.iconst 1, 1) := by decide +kernel
theorem dL_law_265 : decode cL_law 265 = .ok (.iadd, 1) := by decide +kernel
theorem dL_law_266 : decode cL_law 266 = .ok (.iaload, 1) := by decide +kernel
theorem dL_law_267 : decode cL_law 267 = .ok (.aload_n 3, 1) := by decide +kernel
theorem dL_law_268 : decode cL_law 268 = .ok (.invokestatic 93, 3) := by decide +kernel
theorem dL_law_271 : decode cL_law 271 = .ok (.istore 5, 2) := by decide +kernel
theorem dL_law_273 : decode cL_law 273 = .ok (.aload_n 2, 1) := by decide +kernel
theorem dL_law_274 : decode cL_law 274 = .ok (.aload_n 0, 1) := by decide +kernel
theorem dL_law_275 : decode cL_law 275 = .ok (.iload 4, 2) := by decide +kernel
theorem dL_law_277 : decode cL_law 277 = .ok (.iconst 1, 1) := by decide +kernel
theorem dL_law_278 : decode cL_law 278 = .ok (.iadd, 1) := by decide +kernel
theorem dL_law_279 : decode cL_law 279 = .ok (.iaload, 1) := by decide +kernel
theorem dL_law_280 : decode cL_law 280 = .ok (.invokevirtual 95, 3) := by decide +kernel
theorem dL_law_283 : decode cL_law 283 = .ok (.istore 6, 2) := by decide +kernel
theorem dL_law_285 : decode cL_law 285 = .ok (.aload_n 2, 1) := by decide +kernel
theorem dL_law_286 : decode cL_law 286 = .ok (.invokevirtual 85, 3) := by decide +kernel
theorem dL_law_289 : decode cL_law 289 = .ok (.iload 5, 2) := by decide +kernel
theorem dL_law_291 : decode cL_law 291 = .ok (.if_icmp .eq 5, 3) := by decide +kernel
theorem dL_law_294 : decode cL_law 294 = .ok (.iconst 0, 1) := by decide +kernel
theorem dL_law_295 : decode cL_law 295 = .ok (.ireturn, 1) := by decide +kernel
theorem dL_law_296 : decode cL_law 296 = .ok (.iload 5, 2) := by decide +kernel
theorem dL_law_298 : decode cL_law 298 = .ok (.ifCond .ne 15, 3) := by decide +kernel
theorem dL_law_301 : decode cL_law 301 = .ok (.aload_n 3, 1) := by decide +kernel
theorem dL_law_302 : decode cL_law 302 = .ok (.iconst 0, 1) := by decide +kernel
theorem dL_law_303 : decode cL_law 303 = .ok (.laload, 1) := by decide +kernel
theorem dL_law_304 : decode cL_law 304 = .ok (.iload 6, 2) := by decide +kernel
theorem dL_law_306 : decode cL_law 306 = .ok (.i2l, 1) := by decide +kernel
theorem dL_law_307 : decode cL_law 307 = .ok (.lcmp, 1) := by decide +kernel
theorem dL_law_308 : decode cL_law 308 = .ok (.ifCond .eq 5, 3) := by decide +kernel
theorem dL_law_311 : decode cL_law 311 = .ok (.iconst 0, 1) := by decide +kernel
theorem dL_law_312 : decode cL_law 312 = .ok (.ireturn, 1) := by decide +kernel
theorem dL_law_313 : decode cL_law 313 = .ok (.goto 1110, 3) := by decide +kernel
theorem dL_law_316 : decode cL_law 316 = .ok (.aload_n 1, 1) := by decide +kernel
theorem dL_law_317 : decode cL_law 317 = .ok (.aload_n 0, 1) := by decide +kernel
theorem dL_law_318 : decode cL_law 318 = .ok (.iload 4, 2) := by decide +kernel
theorem dL_law_320 : decode cL_law 320 = .ok (.iconst 1, 1) := by decide +kernel
theorem dL_law_321 : decode cL_law 321 = .ok (.iadd, 1) := by decide +kernel
theorem dL_law_322 : decode cL_law 322 = .ok (.iaload, 1) := by decide +kernel
theorem dL_law_323 : decode cL_law 323 = .ok (.aload_n 3, 1) := by decide +kernel
theorem dL_law_324 : decode cL_law 324 = .ok (.invokestatic 96, 3) := by decide +kernel
theorem dL_law_327 : decode cL_law 327 = .ok (.istore 5, 2) := by decide +kernel
theorem dL_law_329 : decode cL_law 329 = .ok (.aload_n 2, 1) := by decide +kernel
theorem dL_law_330 : decode cL_law 330 = .ok (.aload_n 0, 1) := by decide +kernel
theorem dL_law_331 : decode cL_law 331 = .ok (.iload 4, 2) := by decide +kernel
theorem dL_law_333 : decode cL_law 333 = .ok (.iconst 1, 1) := by decide +kernel
theorem dL_law_334 : decode cL_law 334 = .ok (.iadd, 1) := by decide +kernel
theorem dL_law_335 : decode cL_law 335 = .ok (.iaload, 1) := by decide +kernel
theorem dL_law_336 : decode cL_law 336 = .ok (.invokevirtual 98, 3) := by decide +kernel
theorem dL_law_339 : decode cL_law 339 = .ok (.istore 6, 2) := by decide +kernel
theorem dL_law_341 : decode cL_law 341 = .ok (.aload_n 2, 1) := by decide +kernel
theorem dL_law_342 : decode cL_law 342 = .ok (.invokevirtual 85, 3) := by decide +kernel
theorem dL_law_345 : decode cL_law 345 = .ok (.iload 5, 2) := by decide +kernel
theorem dL_law_347 : decode cL_law 347 = .ok (.if_icmp .eq 5, 3) := by decide +kernel
theorem dL_law_350 : decode cL_law 350 = .ok (.iconst 0, 1) := by decide +kernel
theorem dL_law_351 : decode cL_law 351 = .ok (.ireturn, 1) := by decide +kernel
theorem dL_law_352 : decode cL_law 352 = .ok (.iload 5, 2) := by decide +kernel
theorem dL_law_354 : decode cL_law 354 = .ok (.ifCond .ne 15, 3) := by decide +kernel
theorem dL_law_357 : decode cL_law 357 = .ok (.aload_n 3, 1) := by decide +kernel
theorem dL_law_358 : decode cL_law 358 = .ok (.iconst 0, 1) := by decide +kernel
theorem dL_law_359 : decode cL_law 359 = .ok (.laload, 1) := by decide +kernel
theorem dL_law_360 : decode cL_law 360 = .ok (.iload 6, 2) := by decide +kernel
theorem dL_law_362 : decode cL_law 362 = .ok (.i2l, 1) := by decide +kernel
theorem dL_law_363 : decode cL_law 363 = .ok (.lcmp, 1) := by decide +kernel
theorem dL_law_364 : decode cL_law 364 = .ok (.ifCond .eq 5, 3) := by decide +kernel
theorem dL_law_367 : decode cL_law 367 = .ok (.iconst 0, 1) := by decide +kernel
theorem dL_law_368 : decode cL_law 368 = .ok (.ireturn, 1) := by decide +kernel
theorem dL_law_369 : decode cL_law 369 = .ok (.goto 1054, 3) := by decide +kernel
theorem dL_law_372 : decode cL_law 372 = .ok (.aload_n 1, 1) := by decide +kernel
theorem dL_law_373 : decode cL_law 373 = .ok (.aload_n 0, 1) := by decide +kernel
theorem dL_law_374 : decode cL_law 374 = .ok (.iload 4, 2) := by decide +kernel
theorem dL_law_376 : decode cL_law 376 = .ok (.iconst 1, 1) := by decide +kernel
theorem dL_law_377 : decode cL_law 377 = .ok (.iadd, 1) := by decide +kernel
theorem dL_law_378 : decode cL_law 378 = .ok (.iaload, 1) := by decide +kernel
theorem dL_law_379 : decode cL_law 379 = .ok (.aload_n 0, 1) := by decide +kernel
theorem dL_law_380 : decode cL_law 380 = .ok (.iload 4, 2) := by decide +kernel
theorem dL_law_382 : decode cL_law 382 = .ok (.iconst 2, 1) := by decide +kernel
theorem dL_law_383 : decode cL_law 383 = .ok (.iadd, 1) := by decide +kernel
theorem dL_law_384 : decode cL_law 384 = .ok (.iaload, 1) := by decide +kernel
theorem dL_law_385 : decode cL_law 385 = .ok (.aload_n 0, 1) := by decide +kernel
theorem dL_law_386 : decode cL_law 386 = .ok (.iload 4, 2) := by decide +kernel
theorem dL_law_388 : decode cL_law 388 = .ok (.iconst 3, 1) := by decide +kernel
theorem dL_law_389 : decode cL_law 389 = .ok (.iadd, 1) := by decide +kernel
theorem dL_law_390 : decode cL_law 390 = .ok (.iaload, 1) := by decide +kernel
theorem dL_law_391 : decode cL_law 391 = .ok (.aload_n 3, 1) := by decide +kernel
theorem dL_law_392 : decode cL_law 392 = .ok (.invokestatic 99, 3) := by decide +kernel
theorem dL_law_395 : decode cL_law 395 = .ok (.istore 5, 2) := by decide +kernel
theorem dL_law_397 : decode cL_law 397 = .ok (.aload_n 2, 1) := by decide +kernel
theorem dL_law_398 : decode cL_law 398 = .ok (.aload_n 0, 1) := by decide +kernel
theorem dL_law_399 : decode cL_law 399 = .ok (.iload 4, 2) := by decide +kernel
theorem dL_law_401 : decode cL_law 401 = .ok (.iconst 1, 1) := by decide +kernel
theorem dL_law_402 : decode cL_law 402 = .ok (.iadd, 1) := by decide +kernel
theorem dL_law_403 : decode cL_law 403 = .ok (.iaload, 1) := by decide +kernel
theorem dL_law_404 : decode cL_law 404 = .ok (.aload_n 0, 1) := by decide +kernel
theorem dL_law_405 : decode cL_law 405 = .ok (.iload 4, 2) := by decide +kernel
theorem dL_law_407 : decode cL_law 407 = .ok (.iconst 2, 1) := by decide +kernel
theorem dL_law_408 : decode cL_law 408 = .ok (.iadd, 1) := by decide +kernel
theorem dL_law_409 : decode cL_law 409 = .ok (.iaload, 1) := by decide +kernel
theorem dL_law_410 : decode cL_law 410 = .ok (.aload_n 0, 1) := by decide +kernel
theorem dL_law_411 : decode cL_law 411 = .ok (.iload 4, 2) := by decide +kernel
theorem dL_law_413 : decode cL_law 413 = .ok (.iconst 3, 1) := by decide +kernel
theorem dL_law_414 : decode cL_law 414 = .ok (.iadd, 1) := by decide +kernel
theorem dL_law_415 : decode cL_law 415 = .ok (.iaload, 1) := by decide +kernel
theorem dL_law_416 : decode cL_law 416 = .ok (.invokevirtual 102, 3) := by decide +kernel
theorem dL_law_419 : decode cL_law 419 = .ok (.istore 6, 2) := by decide +kernel
theorem dL_law_421 : decode cL_law 421 = .ok (.aload_n 2, 1) := by decide +kernel
theorem dL_law_422 : decode cL_law 422 = .ok (.invokevirtual 85, 3) := by decide +kernel
theorem dL_law_425 : decode cL_law 425 = .ok (.iload 5, 2) := by decide +kernel
theorem dL_law_427 : decode cL_law 427 = .ok (.if_icmp .eq 5, 3) := by decide +kernel
theorem dL_law_430 : decode cL_law 430 = .ok (.iconst 0, 1) := by decide +kernel
theorem dL_law_431 : decode cL_law 431 = .ok (.ireturn, 1) := by decide +kernel
theorem dL_law_432 : decode cL_law 432 = .ok (.iload 5, 2) := by decide +kernel
theorem dL_law_434 : decode cL_law 434 = .ok (.ifCond .ne 15, 3) := by decide +kernel
theorem dL_law_437 : decode cL_law 437 = .ok (.aload_n 3, 1) := by decide +kernel
theorem dL_law_438 : decode cL_law 438 = .ok (.iconst 0, 1) := by decide +kernel
theorem dL_law_439 : decode cL_law 439 = .ok (.laload, 1) := by decide +kernel
theorem dL_law_440 : decode cL_law 440 = .ok (.iload 6, 2) := by decide +kernel
theorem dL_law_442 : decode cL_law 442 = .ok (.i2l, 1) := by decide +kernel
theorem dL_law_443 : decode cL_law 443 = .ok (.lcmp, 1) := by decide +kernel
theorem dL_law_444 : decode cL_law 444 = .ok (.ifCond .eq 5, 3) := by decide +kernel
theorem dL_law_447 : decode cL_law 447 = .ok (.iconst 0, 1) := by decide +kernel
theorem dL_law_448 : decode cL_law 448 = .ok (.ireturn, 1) := by decide +kernel
theorem dL_law_449 : decode cL_law 449 = .ok (.goto 974, 3) := by decide +kernel
theorem dL_law_452 : decode cL_law 452 = .ok (.aload_n 1, 1) := by decide +kernel
theorem dL_law_453 : decode cL_law 453 = .ok (.aload_n 0, 1) := by decide +kernel
theorem dL_law_454 : decode cL_law 454 = .ok (.iload 4, 2) := by decide +kernel
theorem dL_law_456 : decode cL_law 456 = .ok (.iconst 1, 1) := by decide +kernel
theorem dL_law_457 : decode cL_law 457 = .ok (.iadd, 1) := by decide +kernel
theorem dL_law_458 : decode cL_law 458 = .ok (.iaload, 1) := by decide +kernel
theorem dL_law_459 : decode cL_law 459 = .ok (.aload_n 0, 1) := by decide +kernel
theorem dL_law_460 : decode cL_law 460 = .ok (.iload 4, 2) := by decide +kernel
theorem dL_law_462 : decode cL_law 462 = .ok (.iconst 2, 1) := by decide +kernel
theorem dL_law_463 : decode cL_law 463 = .ok (.iadd, 1) := by decide +kernel
theorem dL_law_464 : decode cL_law 464 = .ok (.iaload, 1) := by decide +kernel
theorem dL_law_465 : decode cL_law 465 = .ok (.aload_n 0, 1) := by decide +kernel
theorem dL_law_466 : decode cL_law 466 = .ok (.iload 4, 2) := by decide +kernel
theorem dL_law_468 : decode cL_law 468 = .ok (.iconst 3, 1) := by decide +kernel
theorem dL_law_469 : decode cL_law 469 = .ok (.iadd, 1) := by decide +kernel
theorem dL_law_470 : decode cL_law 470 = .ok (.iaload, 1) := by decide +kernel
theorem dL_law_471 : decode cL_law 471 = .ok (.aload_n 3, 1) := by decide +kernel
theorem dL_law_472 : decode cL_law 472 = .ok (.invokestatic 103, 3) := by decide +kernel
theorem dL_law_475 : decode cL_law 475 = .ok (.istore 5, 2) := by decide +kernel
theorem dL_law_477 : decode cL_law 477 = .ok (.aload_n 2, 1) := by decide +kernel
theorem dL_law_478 : decode cL_law 478 = .ok (.aload_n 0, 1) := by decide +kernel
theorem dL_law_479 : decode cL_law 479 = .ok (.iload 4, 2) := by decide +kernel
theorem dL_law_481 : decode cL_law 481 = .ok (.iconst 1, 1) := by decide +kernel
theorem dL_law_482 : decode cL_law 482 = .ok (.iadd, 1) := by decide +kernel
theorem dL_law_483 : decode cL_law 483 = .ok (.iaload, 1) := by decide +kernel
theorem dL_law_484 : decode cL_law 484 = .ok (.aload_n 0, 1) := by decide +kernel
theorem dL_law_485 : decode cL_law 485 = .ok (.iload 4, 2) := by decide +kernel
theorem dL_law_487 : decode cL_law 487 = .ok (.iconst 2, 1) := by decide +kernel
theorem dL_law_488 : decode cL_law 488 = .ok (.iadd, 1) := by decide +kernel
theorem dL_law_489 : decode cL_law 489 = .ok (.iaload, 1) := by decide +kernel
theorem dL_law_490 : decode cL_law 490 = .ok (.aload_n 0, 1) := by decide +kernel
theorem dL_law_491 : decode cL_law 491 = .ok (.iload 4, 2) := by decide +kernel
theorem dL_law_493 : decode cL_law 493 = .ok (.iconst 3, 1) := by decide +kernel
theorem dL_law_494 : decode cL_law 494 = .ok (.iadd, 1) := by decide +kernel
theorem dL_law_495 : decode cL_law 495 = .ok (.iaload, 1) := by decide +kernel
theorem dL_law_496 : decode cL_law 496 = .ok (.invokevirtual 105, 3) := by decide +kernel
theorem dL_law_499 : decode cL_law 499 = .ok (.istore 6, 2) := by decide +kernel
theorem dL_law_501 : decode cL_law 501 = .ok (.aload_n 2, 1) := by decide +kernel
theorem dL_law_502 : decode cL_law 502 = .ok (.invokevirtual 85, 3) := by decide +kernel
theorem dL_law_505 : decode cL_law 505 = .ok (.iload 5, 2) := by decide +kernel
theorem dL_law_507 : decode cL_law 507 = .ok (.if_icmp .eq 5, 3) := by decide +kernel
theorem dL_law_510 : decode cL_law 510 = .ok (.iconst 0, 1) := by decide +kernel
theorem dL_law_511 : decode cL_law 511 = .ok (.ireturn, 1) := by decide +kernel
theorem dL_law_512 : decode cL_law 512 = .ok (.iload 5, 2) := by decide +kernel
theorem dL_law_514 : decode cL_law 514 = .ok (.ifCond .ne 15, 3) := by decide +kernel
theorem dL_law_517 : decode cL_law 517 = .ok (.aload_n 3, 1) := by decide +kernel
theorem dL_law_518 : decode cL_law 518 = .ok (.iconst 0, 1) := by decide +kernel
theorem dL_law_519 : decode cL_law 519 = .ok (.laload, 1) := by decide +kernel
theorem dL_law_520 : decode cL_law 520 = .ok (.iload 6, 2) := by decide +kernel
theorem dL_law_522 : decode cL_law 522 = .ok (.i2l, 1) := by decide +kernel
theorem dL_law_523 : decode cL_law 523 = .ok (.lcmp, 1) := by decide +kernel
theorem dL_law_524 : decode cL_law 524 = .ok (.ifCond .eq 5, 3) := by decide +kernel
theorem dL_law_527 : decode cL_law 527 = .ok (.iconst 0, 1) := by decide +kernel
theorem dL_law_528 : decode cL_law 528 = .ok (.ireturn, 1) := by decide +kernel
theorem dL_law_529 : decode cL_law 529 = .ok (.goto 894, 3) := by decide +kernel
theorem dL_law_532 : decode cL_law 532 = .ok (.aload_n 1, 1) := by decide +kernel
theorem dL_law_533 : decode cL_law 533 = .ok (.aload_n 0, 1) := by decide +kernel
theorem dL_law_534 : decode cL_law 534 = .ok (.iload 4, 2) := by decide +kernel
theorem dL_law_536 : decode cL_law 536 = .ok (.iconst 1, 1) := by decide +kernel
theorem dL_law_537 : decode cL_law 537 = .ok (.iadd, 1) := by decide +kernel
theorem dL_law_538 : decode cL_law 538 = .ok (.iaload, 1) := by decide +kernel
theorem dL_law_539 : decode cL_law 539 = .ok (.aload_n 3, 1) := by decide +kernel
theorem dL_law_540 : decode cL_law 540 = .ok (.invokestatic 106, 3) := by decide +kernel
theorem dL_law_543 : decode cL_law 543 = .ok (.istore 5, 2) := by decide +kernel
theorem dL_law_545 : decode cL_law 545 = .ok (.aload_n 2, 1) := by decide +kernel
theorem dL_law_546 : decode cL_law 546 = .ok (.aload_n 0, 1) := by decide +kernel
theorem dL_law_547 : decode cL_law 547 = .ok (.iload 4, 2) := by decide +kernel
theorem dL_law_549 : decode cL_law 549 = .ok (.iconst 1, 1) := by decide +kernel
theorem dL_law_550 : decode cL_law 550 = .ok (.iadd, 1) := by decide +kernel
theorem dL_law_551 : decode cL_law 551 = .ok (.iaload, 1) := by decide +kernel
theorem dL_law_552 : decode cL_law 552 = .ok (.invokevirtual 108, 3) := by decide +kernel
theorem dL_law_555 : decode cL_law 555 = .ok (.istore 6, 2) := by decide +kernel
theorem dL_law_557 : decode cL_law 557 = .ok (.aload_n 2, 1) := by decide +kernel
theorem dL_law_558 : decode cL_law 558 = .ok (.invokevirtual 85, 3) := by decide +kernel
theorem dL_law_561 : decode cL_law 561 = .ok (.iload 5, 2) := by decide +kernel
theorem dL_law_563 : decode cL_law 563 = .ok (.if_icmp .eq 5, 3) := by decide +kernel
theorem dL_law_566 : decode cL_law 566 = .ok (.iconst 0, 1) := by decide +kernel
theorem dL_law_567 : decode cL_law 567 = .ok (.ireturn, 1) := by decide +kernel
theorem dL_law_568 : decode cL_law 568 = .ok (.iload 5, 2) := by decide +kernel
theorem dL_law_570 : decode cL_law 570 = .ok (.ifCond .ne 15, 3) := by decide +kernel
theorem dL_law_573 : decode cL_law 573 = .ok (.aload_n 3, 1) := by decide +kernel
theorem dL_law_574 : decode cL_law 574 = .ok (.iconst 0, 1) := by decide +kernel
theorem dL_law_575 : decode cL_law 575 = .ok (.laload, 1) := by decide +kernel
theorem dL_law_576 : decode cL_law 576 = .ok (.iload 6, 2) := by decide +kernel
theorem dL_law_578 : decode cL_law 578 = .ok (.i2l, 1) := by decide +kernel
theorem dL_law_579 : decode cL_law 579 = .ok (.lcmp, 1) := by decide +kernel
theorem dL_law_580 : decode cL_law 580 = .ok (.ifCond .eq 5, 3) := by decide +kernel
theorem dL_law_583 : decode cL_law 583 = .ok (.iconst 0, 1) := by decide +kernel
theorem dL_law_584 : decode cL_law 584 = .ok (.ireturn, 1) := by decide +kernel
theorem dL_law_585 : decode cL_law 585 = .ok (.goto 838, 3) := by decide +kernel
theorem dL_law_588 : decode cL_law 588 = .ok (.aload_n 1, 1) := by decide +kernel
theorem dL_law_589 : decode cL_law 589 = .ok (.aload_n 0, 1) := by decide +kernel
theorem dL_law_590 : decode cL_law 590 = .ok (.iload 4, 2) := by decide +kernel
theorem dL_law_592 : decode cL_law 592 = .ok (.iconst 1, 1) := by decide +kernel
theorem dL_law_593 : decode cL_law 593 = .ok (.iadd, 1) := by decide +kernel
theorem dL_law_594 : decode cL_law 594 = .ok (.iaload, 1) := by decide +kernel
theorem dL_law_595 : decode cL_law 595 = .ok (.aload_n 0, 1) := by decide +kernel
theorem dL_law_596 : decode cL_law 596 = .ok (.iload 4, 2) := by decide +kernel
theorem dL_law_598 : decode cL_law 598 = .ok (.iconst 2, 1) := by decide +kernel
theorem dL_law_599 : decode cL_law 599 = .ok (.iadd, 1) := by decide +kernel
theorem dL_law_600 : decode cL_law 600 = .ok (.iaload, 1) := by decide +kernel
theorem dL_law_601 : decode cL_law 601 = .ok (.aload_n 3, 1) := by decide +kernel
theorem dL_law_602 : decode cL_law 602 = .ok (.invokestatic 109, 3) := by decide +kernel
theorem dL_law_605 : decode cL_law 605 = .ok (.istore 5, 2) := by decide +kernel
theorem dL_law_607 : decode cL_law 607 = .ok (.aload_n 2, 1) := by decide +kernel
theorem dL_law_608 : decode cL_law 608 = .ok (.aload_n 0, 1) := by decide +kernel
theorem dL_law_609 : decode cL_law 609 = .ok (.iload 4, 2) := by decide +kernel
theorem dL_law_611 : decode cL_law 611 = .ok (.iconst 1, 1) := by decide +kernel
theorem dL_law_612 : decode cL_law 612 = .ok (.iadd, 1) := by decide +kernel
theorem dL_law_613 : decode cL_law 613 = .ok (.iaload, 1) := by decide +kernel
theorem dL_law_614 : decode cL_law 614 = .ok (.aload_n 0, 1) := by decide +kernel
theorem dL_law_615 : decode cL_law 615 = .ok (.iload 4, 2) := by decide +kernel
theorem dL_law_617 : decode cL_law 617 = .ok (.iconst 2, 1) := by decide +kernel
theorem dL_law_618 : decode cL_law 618 = .ok (.iadd, 1) := by decide +kernel
theorem dL_law_619 : decode cL_law 619 = .ok (.iaload, 1) := by decide +kernel
theorem dL_law_620 : decode cL_law 620 = .ok (.invokevirtual 111, 3) := by decide +kernel
theorem dL_law_623 : decode cL_law 623 = .ok (.istore 6, 2) := by decide +kernel
theorem dL_law_625 : decode cL_law 625 = .ok (.aload_n 2, 1) := by decide +kernel
theorem dL_law_626 : decode cL_law 626 = .ok (.invokevirtual 85, 3) := by decide +kernel
theorem dL_law_629 : decode cL_law 629 = .ok (.iload 5, 2) := by decide +kernel
theorem dL_law_631 : decode cL_law 631 = .ok (.if_icmp .eq 5, 3) := by decide +kernel
theorem dL_law_634 : decode cL_law 634 = .ok (.iconst 0, 1) := by decide +kernel
theorem dL_law_635 : decode cL_law 635 = .ok (.ireturn, 1) := by decide +kernel
theorem dL_law_636 : decode cL_law 636 = .ok (.iload 5, 2) := by decide +kernel
theorem dL_law_638 : decode cL_law 638 = .ok (.ifCond .ne 15, 3) := by decide +kernel
theorem dL_law_641 : decode cL_law 641 = .ok (.aload_n 3, 1) := by decide +kernel
theorem dL_law_642 : decode cL_law 642 = .ok (.iconst 0, 1) := by decide +kernel
theorem dL_law_643 : decode cL_law 643 = .ok (.laload, 1) := by decide +kernel
theorem dL_law_644 : decode cL_law 644 = .ok (.iload 6, 2) := by decide +kernel
theorem dL_law_646 : decode cL_law 646 = .ok (.i2l, 1) := by decide +kernel
theorem dL_law_647 : decode cL_law 647 = .ok (.lcmp, 1) := by decide +kernel
theorem dL_law_648 : decode cL_law 648 = .ok (.ifCond .eq 5, 3) := by decide +kernel
theorem dL_law_651 : decode cL_law 651 = .ok (.iconst 0, 1) := by decide +kernel
theorem dL_law_652 : decode cL_law 652 = .ok (.ireturn, 1) := by decide +kernel
theorem dL_law_653 : decode cL_law 653 = .ok (.goto 770, 3) := by decide +kernel
theorem dL_law_656 : decode cL_law 656 = .ok (.aload_n 1, 1) := by decide +kernel
theorem dL_law_657 : decode cL_law 657 = .ok (.aload_n 0, 1) := by decide +kernel
theorem dL_law_658 : decode cL_law 658 = .ok (.iload 4, 2) := by decide +kernel
theorem dL_law_660 : decode cL_law 660 = .ok (.iconst 1, 1) := by decide +kernel
theorem dL_law_661 : decode cL_law 661 = .ok (.iadd, 1) := by decide +kernel
theorem dL_law_662 : decode cL_law 662 = .ok (.iaload, 1) := by decide +kernel
theorem dL_law_663 : decode cL_law 663 = .ok (.aload_n 0, 1) := by decide +kernel
theorem dL_law_664 : decode cL_law 664 = .ok (.iload 4, 2) := by decide +kernel
theorem dL_law_666 : decode cL_law 666 = .ok (.iconst 2, 1) := by decide +kernel
theorem dL_law_667 : decode cL_law 667 = .ok (.iadd, 1) := by decide +kernel
theorem dL_law_668 : decode cL_law 668 = .ok (.iaload, 1) := by decide +kernel
theorem dL_law_669 : decode cL_law 669 = .ok (.aload_n 3, 1) := by decide +kernel
theorem dL_law_670 : decode cL_law 670 = .ok (.invokestatic 112, 3) := by decide +kernel
theorem dL_law_673 : decode cL_law 673 = .ok (.istore 5, 2) := by decide +kernel
theorem dL_law_675 : decode cL_law 675 = .ok (.aload_n 2, 1) := by decide +kernel
theorem dL_law_676 : decode cL_law 676 = .ok (.aload_n 0, 1) := by decide +kernel
theorem dL_law_677 : decode cL_law 677 = .ok (.iload 4, 2) := by decide +kernel
theorem dL_law_679 : decode cL_law 679 = .ok (.iconst 1, 1) := by decide +kernel
theorem dL_law_680 : decode cL_law 680 = .ok (.iadd, 1) := by decide +kernel
theorem dL_law_681 : decode cL_law 681 = .ok (.iaload, 1) := by decide +kernel
theorem dL_law_682 : decode cL_law 682 = .ok (.aload_n 0, 1) := by decide +kernel
theorem dL_law_683 : decode cL_law 683 = .ok (.iload 4, 2) := by decide +kernel
theorem dL_law_685 : decode cL_law 685 = .ok (.iconst 2, 1) := by decide +kernel
theorem dL_law_686 : decode cL_law 686 = .ok (.iadd, 1) := by decide +kernel
theorem dL_law_687 : decode cL_law 687 = .ok (.iaload, 1) := by decide +kernel
theorem dL_law_688 : decode cL_law 688 = .ok (.invokevirtual 114, 3) := by decide +kernel
theorem dL_law_691 : decode cL_law 691 = .ok (.istore 6, 2) := by decide +kernel
theorem dL_law_693 : decode cL_law 693 = .ok (.aload_n 2, 1) := by decide +kernel
theorem dL_law_694 : decode cL_law 694 = .ok (.invokevirtual 85, 3) := by decide +kernel
theorem dL_law_697 : decode cL_law 697 = .ok (.iload 5, 2) := by decide +kernel
theorem dL_law_699 : decode cL_law 699 = .ok (.if_icmp .eq 5, 3) := by decide +kernel
theorem dL_law_702 : decode cL_law 702 = .ok (.iconst 0, 1) := by decide +kernel
theorem dL_law_703 : decode cL_law 703 = .ok (.ireturn, 1) := by decide +kernel
theorem dL_law_704 : decode cL_law 704 = .ok (.iload 5, 2) := by decide +kernel
theorem dL_law_706 : decode cL_law 706 = .ok (.ifCond .ne 15, 3) := by decide +kernel
theorem dL_law_709 : decode cL_law 709 = .ok (.aload_n 3, 1) := by decide +kernel
theorem dL_law_710 : decode cL_law 710 = .ok (.iconst 0, 1) := by decide +kernel
theorem dL_law_711 : decode cL_law 711 = .ok (.laload, 1) := by decide +kernel
theorem dL_law_712 : decode cL_law 712 = .ok (.iload 6, 2) := by decide +kernel
theorem dL_law_714 : decode cL_law 714 = .ok (.i2l, 1) := by decide +kernel
theorem dL_law_715 : decode cL_law 715 = .ok (.lcmp, 1) := by decide +kernel
theorem dL_law_716 : decode cL_law 716 = .ok (.ifCond .eq 5, 3) := by decide +kernel
theorem dL_law_719 : decode cL_law 719 = .ok (.iconst 0, 1) := by decide +kernel
theorem dL_law_720 : decode cL_law 720 = .ok (.ireturn, 1) := by decide +kernel
theorem dL_law_721 : decode cL_law 721 = .ok (.goto 702, 3) := by decide +kernel
theorem dL_law_724 : decode cL_law 724 = .ok (.aload_n 1, 1) := by decide +kernel
theorem dL_law_725 : decode cL_law 725 = .ok (.aload_n 0, 1) := by decide +kernel
theorem dL_law_726 : decode cL_law 726 = .ok (.iload 4, 2) := by decide +kernel
theorem dL_law_728 : decode cL_law 728 = .ok (.iconst 1, 1) := by decide +kernel
theorem dL_law_729 : decode cL_law 729 = .ok (.iadd, 1) := by decide +kernel
theorem dL_law_730 : decode cL_law 730 = .ok (.iaload, 1) := by decide +kernel
theorem dL_law_731 : decode cL_law 731 = .ok (.aload_n 3, 1) := by decide +kernel
theorem dL_law_732 : decode cL_law 732 = .ok (.invokestatic 115, 3) := by decide +kernel
theorem dL_law_735 : decode cL_law 735 = .ok (.istore 5, 2) := by decide +kernel
theorem dL_law_737 : decode cL_law 737 = .ok (.aload_n 2, 1) := by decide +kernel
theorem dL_law_738 : decode cL_law 738 = .ok (.aload_n 0, 1) := by decide +kernel
theorem dL_law_739 : decode cL_law 739 = .ok (.iload 4, 2) := by decide +kernel
theorem dL_law_741 : decode cL_law 741 = .ok (.iconst 1, 1) := by decide +kernel
theorem dL_law_742 : decode cL_law 742 = .ok (.iadd, 1) := by decide +kernel
theorem dL_law_743 : decode cL_law 743 = .ok (.iaload, 1) := by decide +kernel
theorem dL_law_744 : decode cL_law 744 = .ok (.invokevirtual 117, 3) := by decide +kernel
theorem dL_law_747 : decode cL_law 747 = .ok (.istore 6, 2) := by decide +kernel
theorem dL_law_749 : decode cL_law 749 = .ok (.aload_n 2, 1) := by decide +kernel
theorem dL_law_750 : decode cL_law 750 = .ok (.invokevirtual 85, 3) := by decide +kernel
theorem dL_law_753 : decode cL_law 753 = .ok (.iload 5, 2) := by decide +kernel
theorem dL_law_755 : decode cL_law 755 = .ok (.if_icmp .eq 5, 3) := by decide +kernel
theorem dL_law_758 : decode cL_law 758 = .ok (.iconst 0, 1) := by decide +kernel
theorem dL_law_759 : decode cL_law 759 = .ok (.ireturn, 1) := by decide +kernel
theorem dL_law_760 : decode cL_law 760 = .ok (.iload 5, 2) := by decide +kernel
theorem dL_law_762 : decode cL_law 762 = .ok (.ifCond .ne 15, 3) := by decide +kernel
theorem dL_law_765 : decode cL_law 765 = .ok (.aload_n 3, 1) := by decide +kernel
theorem dL_law_766 : decode cL_law 766 = .ok (.iconst 0, 1) := by decide +kernel
theorem dL_law_767 : decode cL_law 767 = .ok (.laload, 1) := by decide +kernel
theorem dL_law_768 : decode cL_law 768 = .ok (.iload 6, 2) := by decide +kernel
theorem dL_law_770 : decode cL_law 770 = .ok (.i2l, 1) := by decide +kernel
theorem dL_law_771 : decode cL_law 771 = .ok (.lcmp, 1) := by decide +kernel
theorem dL_law_772 : decode cL_law 772 = .ok (.ifCond .eq 5, 3) := by decide +kernel
theorem dL_law_775 : decode cL_law 775 = .ok (.iconst 0, 1) := by decide +kernel
theorem dL_law_776 : decode cL_law 776 = .ok (.ireturn, 1) := by decide +kernel
theorem dL_law_777 : decode cL_law 777 = .ok (.goto 646, 3) := by decide +kernel
theorem dL_law_780 : decode cL_law 780 = .ok (.aload_n 1, 1) := by decide +kernel
theorem dL_law_781 : decode cL_law 781 = .ok (.aload_n 0, 1) := by decide +kernel
theorem dL_law_782 : decode cL_law 782 = .ok (.iload 4, 2) := by decide +kernel
theorem dL_law_784 : decode cL_law 784 = .ok (.iconst 1, 1) := by decide +kernel
theorem dL_law_785 : decode cL_law 785 = .ok (.iadd, 1) := by decide +kernel
theorem dL_law_786 : decode cL_law 786 = .ok (.iaload, 1) := by decide +kernel
theorem dL_law_787 : decode cL_law 787 = .ok (.aload_n 3, 1) := by decide +kernel
theorem dL_law_788 : decode cL_law 788 = .ok (.invokestatic 118, 3) := by decide +kernel
theorem dL_law_791 : decode cL_law 791 = .ok (.istore 5, 2) := by decide +kernel
theorem dL_law_793 : decode cL_law 793 = .ok (.aload_n 2, 1) := by decide +kernel
theorem dL_law_794 : decode cL_law 794 = .ok (.aload_n 0, 1) := by decide +kernel
theorem dL_law_795 : decode cL_law 795 = .ok (.iload 4, 2) := by decide +kernel
theorem dL_law_797 : decode cL_law 797 = .ok (.iconst 1, 1) := by decide +kernel
theorem dL_law_798 : decode cL_law 798 = .ok (.iadd, 1) := by decide +kernel
theorem dL_law_799 : decode cL_law 799 = .ok (.iaload, 1) := by decide +kernel
theorem dL_law_800 : decode cL_law 800 = .ok (.invokevirtual 120, 3) := by decide +kernel
theorem dL_law_803 : decode cL_law 803 = .ok (.istore 6, 2) := by decide +kernel
theorem dL_law_805 : decode cL_law 805 = .ok (.aload_n 2, 1) := by decide +kernel
theorem dL_law_806 : decode cL_law 806 = .ok (.invokevirtual 85, 3) := by decide +kernel
theorem dL_law_809 : decode cL_law 809 = .ok (.iload 5, 2) := by decide +kernel
theorem dL_law_811 : decode cL_law 811 = .ok (.if_icmp .eq 5, 3) := by decide +kernel
theorem dL_law_814 : decode cL_law 814 = .ok (.iconst 0, 1) := by decide +kernel
theorem dL_law_815 : decode cL_law 815 = .ok (.ireturn, 1) := by decide +kernel
theorem dL_law_816 : decode cL_law 816 = .ok (.iload 5, 2) := by decide +kernel
theorem dL_law_818 : decode cL_law 818 = .ok (.ifCond .ne 15, 3) := by decide +kernel
theorem dL_law_821 : decode cL_law 821 = .ok (.aload_n 3, 1) := by decide +kernel
theorem dL_law_822 : decode cL_law 822 = .ok (.iconst 0, 1) := by decide +kernel
theorem dL_law_823 : decode cL_law 823 = .ok (.laload, 1) := by decide +kernel
theorem dL_law_824 : decode cL_law 824 = .ok (.iload 6, 2) := by decide +kernel
theorem dL_law_826 : decode cL_law 826 = .ok (.i2l, 1) := by decide +kernel
theorem dL_law_827 : decode cL_law 827 = .ok (.lcmp, 1) := by decide +kernel
theorem dL_law_828 : decode cL_law 828 = .ok (.ifCond .eq 5, 3) := by decide +kernel
theorem dL_law_831 : decode cL_law 831 = .ok (.iconst 0, 1) := by decide +kernel
theorem dL_law_832 : decode cL_law 832 = .ok (.ireturn, 1) := by decide +kernel
theorem dL_law_833 : decode cL_law 833 = .ok (.goto 590, 3) := by decide +kernel
theorem dL_law_836 : decode cL_law 836 = .ok (.aload_n 1, 1) := by decide +kernel
theorem dL_law_837 : decode cL_law 837 = .ok (.aload_n 0, 1) := by decide +kernel
theorem dL_law_838 : decode cL_law 838 = .ok (.iload 4, 2) := by decide +kernel
theorem dL_law_840 : decode cL_law 840 = .ok (.iconst 1, 1) := by decide +kernel
theorem dL_law_841 : decode cL_law 841 = .ok (.iadd, 1) := by decide +kernel
theorem dL_law_842 : decode cL_law 842 = .ok (.iaload, 1) := by decide +kernel
theorem dL_law_843 : decode cL_law 843 = .ok (.aload_n 0, 1) := by decide +kernel
theorem dL_law_844 : decode cL_law 844 = .ok (.iload 4, 2) := by decide +kernel
theorem dL_law_846 : decode cL_law 846 = .ok (.iconst 2, 1) := by decide +kernel
theorem dL_law_847 : decode cL_law 847 = .ok (.iadd, 1) := by decide +kernel
theorem dL_law_848 : decode cL_law 848 = .ok (.iaload, 1) := by decide +kernel
theorem dL_law_849 : decode cL_law 849 = .ok (.aload_n 0, 1) := by decide +kernel
theorem dL_law_850 : decode cL_law 850 = .ok (.iload 4, 2) := by decide +kernel
theorem dL_law_852 : decode cL_law 852 = .ok (.iconst 3, 1) := by decide +kernel
theorem dL_law_853 : decode cL_law 853 = .ok (.iadd, 1) := by decide +kernel
theorem dL_law_854 : decode cL_law 854 = .ok (.iaload, 1) := by decide +kernel
theorem dL_law_855 : decode cL_law 855 = .ok (.aload_n 3, 1) := by decide +kernel
theorem dL_law_856 : decode cL_law 856 = .ok (.invokestatic 121, 3) := by decide +kernel
theorem dL_law_859 : decode cL_law 859 = .ok (.istore 5, 2) := by decide +kernel
theorem dL_law_861 : decode cL_law 861 = .ok (.aload_n 2, 1) := by decide +kernel
theorem dL_law_862 : decode cL_law 862 = .ok (.aload_n 0, 1) := by decide +kernel
theorem dL_law_863 : decode cL_law 863 = .ok (.iload 4, 2) := by decide +kernel
theorem dL_law_865 : decode cL_law 865 = .ok (.iconst 1, 1) := by decide +kernel
theorem dL_law_866 : decode cL_law 866 = .ok (.iadd, 1) := by decide +kernel
theorem dL_law_867 : decode cL_law 867 = .ok (.iaload, 1) := by decide +kernel
theorem dL_law_868 : decode cL_law 868 = .ok (.aload_n 0, 1) := by decide +kernel
theorem dL_law_869 : decode cL_law 869 = .ok (.iload 4, 2) := by decide +kernel
theorem dL_law_871 : decode cL_law 871 = .ok (.iconst 2, 1) := by decide +kernel
theorem dL_law_872 : decode cL_law 872 = .ok (.iadd, 1) := by decide +kernel
theorem dL_law_873 : decode cL_law 873 = .ok (.iaload, 1) := by decide +kernel
theorem dL_law_874 : decode cL_law 874 = .ok (.aload_n 0, 1) := by decide +kernel
theorem dL_law_875 : decode cL_law 875 = .ok (.iload 4, 2) := by decide +kernel
theorem dL_law_877 : decode cL_law 877 = .ok (.iconst 3, 1) := by decide +kernel
theorem dL_law_878 : decode cL_law 878 = .ok (.iadd, 1) := by decide +kernel
theorem dL_law_879 : decode cL_law 879 = .ok (.iaload, 1) := by decide +kernel
theorem dL_law_880 : decode cL_law 880 = .ok (.invokevirtual 123, 3) := by decide +kernel
theorem dL_law_883 : decode cL_law 883 = .ok (.istore 6, 2) := by decide +kernel
theorem dL_law_885 : decode cL_law 885 = .ok (.aload_n 2, 1) := by decide +kernel
theorem dL_law_886 : decode cL_law 886 = .ok (.invokevirtual 85, 3) := by decide +kernel
theorem dL_law_889 : decode cL_law 889 = .ok (.iload 5, 2) := by decide +kernel
theorem dL_law_891 : decode cL_law 891 = .ok (.if_icmp .eq 5, 3) := by decide +kernel
theorem dL_law_894 : decode cL_law 894 = .ok (.iconst 0, 1) := by decide +kernel
theorem dL_law_895 : decode cL_law 895 = .ok (.ireturn, 1) := by decide +kernel
theorem dL_law_896 : decode cL_law 896 = .ok (.iload 5, 2) := by decide +kernel
theorem dL_law_898 : decode cL_law 898 = .ok (.ifCond .ne 15, 3) := by decide +kernel
theorem dL_law_901 : decode cL_law 901 = .ok (.aload_n 3, 1) := by decide +kernel
theorem dL_law_902 : decode cL_law 902 = .ok (.iconst 0, 1) := by decide +kernel
theorem dL_law_903 : decode cL_law 903 = .ok (.laload, 1) := by decide +kernel
theorem dL_law_904 : decode cL_law 904 = .ok (.iload 6, 2) := by decide +kernel
theorem dL_law_906 : decode cL_law 906 = .ok (.i2l, 1) := by decide +kernel
theorem dL_law_907 : decode cL_law 907 = .ok (.lcmp, 1) := by decide +kernel
theorem dL_law_908 : decode cL_law 908 = .ok (.ifCond .eq 5, 3) := by decide +kernel
theorem dL_law_911 : decode cL_law 911 = .ok (.iconst 0, 1) := by decide +kernel
theorem dL_law_912 : decode cL_law 912 = .ok (.ireturn, 1) := by decide +kernel
theorem dL_law_913 : decode cL_law 913 = .ok (.goto 510, 3) := by decide +kernel
theorem dL_law_916 : decode cL_law 916 = .ok (.aload_n 1, 1) := by decide +kernel
theorem dL_law_917 : decode cL_law 917 = .ok (.aload_n 0, 1) := by decide +kernel
theorem dL_law_918 : decode cL_law 918 = .ok (.iload 4, 2) := by decide +kernel
theorem dL_law_920 : decode cL_law 920 = .ok (.iconst 1, 1) := by decide +kernel
theorem dL_law_921 : decode cL_law 921 = .ok (.iadd, 1) := by decide +kernel
theorem dL_law_922 : decode cL_law 922 = .ok (.iaload, 1) := by decide +kernel
theorem dL_law_923 : decode cL_law 923 = .ok (.aload_n 0, 1) := by decide +kernel
theorem dL_law_924 : decode cL_law 924 = .ok (.iload 4, 2) := by decide +kernel
theorem dL_law_926 : decode cL_law 926 = .ok (.iconst 2, 1) := by decide +kernel
theorem dL_law_927 : decode cL_law 927 = .ok (.iadd, 1) := by decide +kernel
theorem dL_law_928 : decode cL_law 928 = .ok (.iaload, 1) := by decide +kernel
theorem dL_law_929 : decode cL_law 929 = .ok (.aload_n 3, 1) := by decide +kernel
theorem dL_law_930 : decode cL_law 930 = .ok (.invokestatic 124, 3) := by decide +kernel
theorem dL_law_933 : decode cL_law 933 = .ok (.istore 5, 2) := by decide +kernel
theorem dL_law_935 : decode cL_law 935 = .ok (.aload_n 2, 1) := by decide +kernel
theorem dL_law_936 : decode cL_law 936 = .ok (.aload_n 0, 1) := by decide +kernel
theorem dL_law_937 : decode cL_law 937 = .ok (.iload 4, 2) := by decide +kernel
theorem dL_law_939 : decode cL_law 939 = .ok (.iconst 1, 1) := by decide +kernel
theorem dL_law_940 : decode cL_law 940 = .ok (.iadd, 1) := by decide +kernel
theorem dL_law_941 : decode cL_law 941 = .ok (.iaload, 1) := by decide +kernel
theorem dL_law_942 : decode cL_law 942 = .ok (.aload_n 0, 1) := by decide +kernel
theorem dL_law_943 : decode cL_law 943 = .ok (.iload 4, 2) := by decide +kernel
theorem dL_law_945 : decode cL_law 945 = .ok (.iconst 2, 1) := by decide +kernel
theorem dL_law_946 : decode cL_law 946 = .ok (.iadd, 1) := by decide +kernel
theorem dL_law_947 : decode cL_law 947 = .ok (.iaload, 1) := by decide +kernel
theorem dL_law_948 : decode cL_law 948 = .ok (.invokevirtual 126, 3) := by decide +kernel
theorem dL_law_951 : decode cL_law 951 = .ok (.istore 6, 2) := by decide +kernel
theorem dL_law_953 : decode cL_law 953 = .ok (.aload_n 2, 1) := by decide +kernel
theorem dL_law_954 : decode cL_law 954 = .ok (.invokevirtual 85, 3) := by decide +kernel
theorem dL_law_957 : decode cL_law 957 = .ok (.iload 5, 2) := by decide +kernel
theorem dL_law_959 : decode cL_law 959 = .ok (.if_icmp .eq 5, 3) := by decide +kernel
theorem dL_law_962 : decode cL_law 962 = .ok (.iconst 0, 1) := by decide +kernel
theorem dL_law_963 : decode cL_law 963 = .ok (.ireturn, 1) := by decide +kernel
theorem dL_law_964 : decode cL_law 964 = .ok (.iload 5, 2) := by decide +kernel
theorem dL_law_966 : decode cL_law 966 = .ok (.ifCond .ne 15, 3) := by decide +kernel
theorem dL_law_969 : decode cL_law 969 = .ok (.aload_n 3, 1) := by decide +kernel
theorem dL_law_970 : decode cL_law 970 = .ok (.iconst 0, 1) := by decide +kernel
theorem dL_law_971 : decode cL_law 971 = .ok (.laload, 1) := by decide +kernel
theorem dL_law_972 : decode cL_law 972 = .ok (.iload 6, 2) := by decide +kernel
theorem dL_law_974 : decode cL_law 974 = .ok (.i2l, 1) := by decide +kernel
theorem dL_law_975 : decode cL_law 975 = .ok (.lcmp, 1) := by decide +kernel
theorem dL_law_976 : decode cL_law 976 = .ok (.ifCond .eq 5, 3) := by decide +kernel
theorem dL_law_979 : decode cL_law 979 = .ok (.iconst 0, 1) := by decide +kernel
theorem dL_law_980 : decode cL_law 980 = .ok (.ireturn, 1) := by decide +kernel
theorem dL_law_981 : decode cL_law 981 = .ok (.goto 442, 3) := by decide +kernel
theorem dL_law_984 : decode cL_law 984 = .ok (.aload_n 1, 1) := by decide +kernel
theorem dL_law_985 : decode cL_law 985 = .ok (.aload_n 0, 1) := by decide +kernel
theorem dL_law_986 : decode cL_law 986 = .ok (.iload 4, 2) := by decide +kernel
theorem dL_law_988 : decode cL_law 988 = .ok (.iconst 1, 1) := by decide +kernel
theorem dL_law_989 : decode cL_law 989 = .ok (.iadd, 1) := by decide +kernel
theorem dL_law_990 : decode cL_law 990 = .ok (.iaload, 1) := by decide +kernel
theorem dL_law_991 : decode cL_law 991 = .ok (.aload_n 3, 1) := by decide +kernel
theorem dL_law_992 : decode cL_law 992 = .ok (.invokestatic 127, 3) := by decide +kernel
theorem dL_law_995 : decode cL_law 995 = .ok (.istore 5, 2) := by decide +kernel
theorem dL_law_997 : decode cL_law 997 = .ok (.aload_n 2, 1) := by decide +kernel
theorem dL_law_998 : decode cL_law 998 = .ok (.aload_n 0, 1) := by decide +kernel
theorem dL_law_999 : decode cL_law 999 = .ok (.iload 4, 2) := by decide +kernel
theorem dL_law_1001 : decode cL_law 1001 = .ok (.iconst 1, 1) := by decide +kernel
theorem dL_law_1002 : decode cL_law 1002 = .ok (.iadd, 1) := by decide +kernel
theorem dL_law_1003 : decode cL_law 1003 = .ok (.iaload, 1) := by decide +kernel
theorem dL_law_1004 : decode cL_law 1004 = .ok (.invokevirtual 129, 3) := by decide +kernel
theorem dL_law_1007 : decode cL_law 1007 = .ok (.istore 6, 2) := by decide +kernel
theorem dL_law_1009 : decode cL_law 1009 = .ok (.aload_n 2, 1) := by decide +kernel
theorem dL_law_1010 : decode cL_law 1010 = .ok (.invokevirtual 85, 3) := by decide +kernel
theorem dL_law_1013 : decode cL_law 1013 = .ok (.iload 5, 2) := by decide +kernel
theorem dL_law_1015 : decode cL_law 1015 = .ok (.if_icmp .eq 5, 3) := by decide +kernel
theorem dL_law_1018 : decode cL_law 1018 = .ok (.iconst 0, 1) := by decide +kernel
theorem dL_law_1019 : decode cL_law 1019 = .ok (.ireturn, 1) := by decide +kernel
theorem dL_law_1020 : decode cL_law 1020 = .ok (.iload 5, 2) := by decide +kernel
theorem dL_law_1022 : decode cL_law 1022 = .ok (.ifCond .ne 15, 3) := by decide +kernel
theorem dL_law_1025 : decode cL_law 1025 = .ok (.aload_n 3, 1) := by decide +kernel
theorem dL_law_1026 : decode cL_law 1026 = .ok (.iconst 0, 1) := by decide +kernel
theorem dL_law_1027 : decode cL_law 1027 = .ok (.laload, 1) := by decide +kernel
theorem dL_law_1028 : decode cL_law 1028 = .ok (.iload 6, 2) := by decide +kernel
theorem dL_law_1030 : decode cL_law 1030 = .ok (.i2l, 1) := by decide +kernel
theorem dL_law_1031 : decode cL_law 1031 = .ok (.lcmp, 1) := by decide +kernel
theorem dL_law_1032 : decode cL_law 1032 = .ok (.ifCond .eq 5, 3) := by decide +kernel
theorem dL_law_1035 : decode cL_law 1035 = .ok (.iconst 0, 1) := by decide +kernel
theorem dL_law_1036 : decode cL_law 1036 = .ok (.ireturn, 1) := by decide +kernel
theorem dL_law_1037 : decode cL_law 1037 = .ok (.goto 386, 3) := by decide +kernel
theorem dL_law_1040 : decode cL_law 1040 = .ok (.aload_n 1, 1) := by decide +kernel
theorem dL_law_1041 : decode cL_law 1041 = .ok (.aload_n 0, 1) := by decide +kernel
theorem dL_law_1042 : decode cL_law 1042 = .ok (.iload 4, 2) := by decide +kernel
theorem dL_law_1044 : decode cL_law 1044 = .ok (.iconst 1, 1) := by decide +kernel
theorem dL_law_1045 : decode cL_law 1045 = .ok (.iadd, 1) := by decide +kernel
theorem dL_law_1046 : decode cL_law 1046 = .ok (.iaload, 1) := by decide +kernel
theorem dL_law_1047 : decode cL_law 1047 = .ok (.aload_n 0, 1) := by decide +kernel
theorem dL_law_1048 : decode cL_law 1048 = .ok (.iload 4, 2) := by decide +kernel
theorem dL_law_1050 : decode cL_law 1050 = .ok (.iconst 2, 1) := by decide +kernel
theorem dL_law_1051 : decode cL_law 1051 = .ok (.iadd, 1) := by decide +kernel
theorem dL_law_1052 : decode cL_law 1052 = .ok (.iaload, 1) := by decide +kernel
theorem dL_law_1053 : decode cL_law 1053 = .ok (.aload_n 3, 1) := by decide +kernel
theorem dL_law_1054 : decode cL_law 1054 = .ok (.invokestatic 130, 3) := by decide +kernel
theorem dL_law_1057 : decode cL_law 1057 = .ok (.istore 5, 2) := by decide +kernel
theorem dL_law_1059 : decode cL_law 1059 = .ok (.aload_n 2, 1) := by decide +kernel
theorem dL_law_1060 : decode cL_law 1060 = .ok (.aload_n 0, 1) := by decide +kernel
theorem dL_law_1061 : decode cL_law 1061 = .ok (.iload 4, 2) := by decide +kernel
theorem dL_law_1063 : decode cL_law 1063 = .ok (.iconst 1, 1) := by decide +kernel
theorem dL_law_1064 : decode cL_law 1064 = .ok (.iadd, 1) := by decide +kernel
theorem dL_law_1065 : decode cL_law 1065 = .ok (.iaload, 1) := by decide +kernel
theorem dL_law_1066 : decode cL_law 1066 = .ok (.aload_n 0, 1) := by decide +kernel
theorem dL_law_1067 : decode cL_law 1067 = .ok (.iload 4, 2) := by decide +kernel
theorem dL_law_1069 : decode cL_law 1069 = .ok (.iconst 2, 1) := by decide +kernel
theorem dL_law_1070 : decode cL_law 1070 = .ok (.iadd, 1) := by decide +kernel
theorem dL_law_1071 : decode cL_law 1071 = .ok (.iaload, 1) := by decide +kernel
theorem dL_law_1072 : decode cL_law 1072 = .ok (.invokevirtual 132, 3) := by decide +kernel
theorem dL_law_1075 : decode cL_law 1075 = .ok (.istore 6, 2) := by decide +kernel
theorem dL_law_1077 : decode cL_law 1077 = .ok (.aload_n 2, 1) := by decide +kernel
theorem dL_law_1078 : decode cL_law 1078 = .ok (.invokevirtual 85, 3) := by decide +kernel
theorem dL_law_1081 : decode cL_law 1081 = .ok (.iload 5, 2) := by decide +kernel
theorem dL_law_1083 : decode cL_law 1083 = .ok (.if_icmp .eq 5, 3) := by decide +kernel
theorem dL_law_1086 : decode cL_law 1086 = .ok (.iconst 0, 1) := by decide +kernel
theorem dL_law_1087 : decode cL_law 1087 = .ok (.ireturn, 1) := by decide +kernel
theorem dL_law_1088 : decode cL_law 1088 = .ok (.iload 5, 2) := by decide +kernel
theorem dL_law_1090 : decode cL_law 1090 = .ok (.ifCond .ne 15, 3) := by decide +kernel
theorem dL_law_1093 : decode cL_law 1093 = .ok (.aload_n 3, 1) := by decide +kernel
theorem dL_law_1094 : decode cL_law 1094 = .ok (.iconst 0, 1) := by decide +kernel
theorem dL_law_1095 : decode cL_law 1095 = .ok (.laload, 1) := by decide +kernel
theorem dL_law_1096 : decode cL_law 1096 = .ok (.iload 6, 2) := by decide +kernel
theorem dL_law_1098 : decode cL_law 1098 = .ok (.i2l, 1) := by decide +kernel
theorem dL_law_1099 : decode cL_law 1099 = .ok (.lcmp, 1) := by decide +kernel
theorem dL_law_1100 : decode cL_law 1100 = .ok (.ifCond .eq 5, 3) := by decide +kernel
theorem dL_law_1103 : decode cL_law 1103 = .ok (.iconst 0, 1) := by decide +kernel
theorem dL_law_1104 : decode cL_law 1104 = .ok (.ireturn, 1) := by decide +kernel
theorem dL_law_1105 : decode cL_law 1105 = .ok (.goto 318, 3) := by decide +kernel
theorem dL_law_1108 : decode cL_law 1108 = .ok (.aload_n 1, 1) := by decide +kernel
theorem dL_law_1109 : decode cL_law 1109 = .ok (.aload_n 0, 1) := by decide +kernel
theorem dL_law_1110 : decode cL_law 1110 = .ok (.iload 4, 2) := by decide +kernel
theorem dL_law_1112 : decode cL_law 1112 = .ok (.iconst 1, 1) := by decide +kernel
theorem dL_law_1113 : decode cL_law 1113 = .ok (.iadd, 1) := by decide +kernel
theorem dL_law_1114 : decode cL_law 1114 = .ok (.iaload, 1) := by decide +kernel
theorem dL_law_1115 : decode cL_law 1115 = .ok (.aload_n 0, 1) := by decide +kernel
theorem dL_law_1116 : decode cL_law 1116 = .ok (.iload 4, 2) := by decide +kernel
theorem dL_law_1118 : decode cL_law 1118 = .ok (.iconst 2, 1) := by decide +kernel
theorem dL_law_1119 : decode cL_law 1119 = .ok (.iadd, 1) := by decide +kernel
theorem dL_law_1120 : decode cL_law 1120 = .ok (.iaload, 1) := by decide +kernel
theorem dL_law_1121 : decode cL_law 1121 = .ok (.aload_n 3, 1) := by decide +kernel
theorem dL_law_1122 : decode cL_law 1122 = .ok (.invokestatic 133, 3) := by decide +kernel
theorem dL_law_1125 : decode cL_law 1125 = .ok (.istore 5, 2) := by decide +kernel
theorem dL_law_1127 : decode cL_law 1127 = .ok (.aload_n 2, 1) := by decide +kernel
theorem dL_law_1128 : decode cL_law 1128 = .ok (.aload_n 0, 1) := by decide +kernel
theorem dL_law_1129 : decode cL_law 1129 = .ok (.iload 4, 2) := by decide +kernel
theorem dL_law_1131 : decode cL_law 1131 = .ok (.iconst 1, 1) := by decide +kernel
theorem dL_law_1132 : decode cL_law 1132 = .ok (.iadd, 1) := by decide +kernel
theorem dL_law_1133 : decode cL_law 1133 = .ok (.iaload, 1) := by decide +kernel
theorem dL_law_1134 : decode cL_law 1134 = .ok (.aload_n 0, 1) := by decide +kernel
theorem dL_law_1135 : decode cL_law 1135 = .ok (.iload 4, 2) := by decide +kernel
theorem dL_law_1137 : decode cL_law 1137 = .ok (.iconst 2, 1) := by decide +kernel
theorem dL_law_1138 : decode cL_law 1138 = .ok (.iadd, 1) := by decide +kernel
theorem dL_law_1139 : decode cL_law 1139 = .ok (.iaload, 1) := by decide +kernel
theorem dL_law_1140 : decode cL_law 1140 = .ok (.invokevirtual 135, 3) := by decide +kernel
theorem dL_law_1143 : decode cL_law 1143 = .ok (.istore 6, 2) := by decide +kernel
theorem dL_law_1145 : decode cL_law 1145 = .ok (.aload_n 2, 1) := by decide +kernel
theorem dL_law_1146 : decode cL_law 1146 = .ok (.invokevirtual 85, 3) := by decide +kernel
theorem dL_law_1149 : decode cL_law 1149 = .ok (.iload 5, 2) := by decide +kernel
theorem dL_law_1151 : decode cL_law 1151 = .ok (.if_icmp .eq 5, 3) := by decide +kernel
theorem dL_law_1154 : decode cL_law 1154 = .ok (.iconst 0, 1) := by decide +kernel
theorem dL_law_1155 : decode cL_law 1155 = .ok (.ireturn, 1) := by decide +kernel
theorem dL_law_1156 : decode cL_law 1156 = .ok (.iload 5, 2) := by decide +kernel
theorem dL_law_1158 : decode cL_law 1158 = .ok (.ifCond .ne 15, 3) := by decide +kernel
theorem dL_law_1161 : decode cL_law 1161 = .ok (.aload_n 3, 1) := by decide +kernel
theorem dL_law_1162 : decode cL_law 1162 = .ok (.iconst 0, 1) := by decide +kernel
theorem dL_law_1163 : decode cL_law 1163 = .ok (.laload, 1) := by decide +kernel
theorem dL_law_1164 : decode cL_law 1164 = .ok (.iload 6, 2) := by decide +kernel
theorem dL_law_1166 : decode cL_law 1166 = .ok (.i2l, 1) := by decide +kernel
theorem dL_law_1167 : decode cL_law 1167 = .ok (.lcmp, 1) := by decide +kernel
theorem dL_law_1168 : decode cL_law 1168 = .ok (.ifCond .eq 5, 3) := by decide +kernel
theorem dL_law_1171 : decode cL_law 1171 = .ok (.iconst 0, 1) := by decide +kernel
theorem dL_law_1172 : decode cL_law 1172 = .ok (.ireturn, 1) := by decide +kernel
theorem dL_law_1173 : decode cL_law 1173 = .ok (.goto 250, 3) := by decide +kernel
theorem dL_law_1176 : decode cL_law 1176 = .ok (.aload_n 1, 1) := by decide +kernel
theorem dL_law_1177 : decode cL_law 1177 = .ok (.aload_n 0, 1) := by decide +kernel
theorem dL_law_1178 : decode cL_law 1178 = .ok (.iload 4, 2) := by decide +kernel
theorem dL_law_1180 : decode cL_law 1180 = .ok (.iconst 1, 1) := by decide +kernel
theorem dL_law_1181 : decode cL_law 1181 = .ok (.iadd, 1) := by decide +kernel
theorem dL_law_1182 : decode cL_law 1182 = .ok (.iaload, 1) := by decide +kernel
theorem dL_law_1183 : decode cL_law 1183 = .ok (.aload_n 3, 1) := by decide +kernel
theorem dL_law_1184 : decode cL_law 1184 = .ok (.invokestatic 136, 3) := by decide +kernel
theorem dL_law_1187 : decode cL_law 1187 = .ok (.istore 5, 2) := by decide +kernel
theorem dL_law_1189 : decode cL_law 1189 = .ok (.aload_n 2, 1) := by decide +kernel
theorem dL_law_1190 : decode cL_law 1190 = .ok (.aload_n 0, 1) := by decide +kernel
theorem dL_law_1191 : decode cL_law 1191 = .ok (.iload 4, 2) := by decide +kernel
theorem dL_law_1193 : decode cL_law 1193 = .ok (.iconst 1, 1) := by decide +kernel
theorem dL_law_1194 : decode cL_law 1194 = .ok (.iadd, 1) := by decide +kernel
theorem dL_law_1195 : decode cL_law 1195 = .ok (.iaload, 1) := by decide +kernel
theorem dL_law_1196 : decode cL_law 1196 = .ok (.invokevirtual 138, 3) := by decide +kernel
theorem dL_law_1199 : decode cL_law 1199 = .ok (.istore 6, 2) := by decide +kernel
theorem dL_law_1201 : decode cL_law 1201 = .ok (.aload_n 2, 1) := by decide +kernel
theorem dL_law_1202 : decode cL_law 1202 = .ok (.invokevirtual 85, 3) := by decide +kernel
theorem dL_law_1205 : decode cL_law 1205 = .ok (.iload 5, 2) := by decide +kernel
theorem dL_law_1207 : decode cL_law 1207 = .ok (.if_icmp .eq 5, 3) := by decide +kernel
theorem dL_law_1210 : decode cL_law 1210 = .ok (.iconst 0, 1) := by decide +kernel
theorem dL_law_1211 : decode cL_law 1211 = .ok (.ireturn, 1) := by decide +kernel
theorem dL_law_1212 : decode cL_law 1212 = .ok (.iload 5, 2) := by decide +kernel
theorem dL_law_1214 : decode cL_law 1214 = .ok (.ifCond .ne 15, 3) := by decide +kernel
theorem dL_law_1217 : decode cL_law 1217 = .ok (.aload_n 3, 1) := by decide +kernel
theorem dL_law_1218 : decode cL_law 1218 = .ok (.iconst 0, 1) := by decide +kernel
theorem dL_law_1219 : decode cL_law 1219 = .ok (.laload, 1) := by decide +kernel
theorem dL_law_1220 : decode cL_law 1220 = .ok (.iload 6, 2) := by decide +kernel
theorem dL_law_1222 : decode cL_law 1222 = .ok (.i2l, 1) := by decide +kernel
theorem dL_law_1223 : decode cL_law 1223 = .ok (.lcmp, 1) := by decide +kernel
theorem dL_law_1224 : decode cL_law 1224 = .ok (.ifCond .eq 5, 3) := by decide +kernel
theorem dL_law_1227 : decode cL_law 1227 = .ok (.iconst 0, 1) := by decide +kernel
theorem dL_law_1228 : decode cL_law 1228 = .ok (.ireturn, 1) := by decide +kernel
theorem dL_law_1229 : decode cL_law 1229 = .ok (.goto 194, 3) := by decide +kernel
theorem dL_law_1232 : decode cL_law 1232 = .ok (.aload_n 1, 1) := by decide +kernel
theorem dL_law_1233 : decode cL_law 1233 = .ok (.aload_n 0, 1) := by decide +kernel
theorem dL_law_1234 : decode cL_law 1234 = .ok (.iload 4, 2) := by decide +kernel
theorem dL_law_1236 : decode cL_law 1236 = .ok (.iconst 1, 1) := by decide +kernel
theorem dL_law_1237 : decode cL_law 1237 = .ok (.iadd, 1) := by decide +kernel
theorem dL_law_1238 : decode cL_law 1238 = .ok (.iaload, 1) := by decide +kernel
theorem dL_law_1239 : decode cL_law 1239 = .ok (.aload_n 0, 1) := by decide +kernel
theorem dL_law_1240 : decode cL_law 1240 = .ok (.iload 4, 2) := by decide +kernel
theorem dL_law_1242 : decode cL_law 1242 = .ok (.iconst 2, 1) := by decide +kernel
theorem dL_law_1243 : decode cL_law 1243 = .ok (.iadd, 1) := by decide +kernel
theorem dL_law_1244 : decode cL_law 1244 = .ok (.iaload, 1) := by decide +kernel
theorem dL_law_1245 : decode cL_law 1245 = .ok (.aload_n 3, 1) := by decide +kernel
theorem dL_law_1246 : decode cL_law 1246 = .ok (.invokestatic 139, 3) := by decide +kernel
theorem dL_law_1249 : decode cL_law 1249 = .ok (.istore 5, 2) := by decide +kernel
theorem dL_law_1251 : decode cL_law 1251 = .ok (.aload_n 2, 1) := by decide +kernel
theorem dL_law_1252 : decode cL_law 1252 = .ok (.aload_n 0, 1) := by decide +kernel
theorem dL_law_1253 : decode cL_law 1253 = .ok (.iload 4, 2) := by decide +kernel
theorem dL_law_1255 : decode cL_law 1255 = .ok (.iconst 1, 1) := by decide +kernel
theorem dL_law_1256 : decode cL_law 1256 = .ok (.iadd, 1) := by decide +kernel
theorem dL_law_1257 : decode cL_law 1257 = .ok (.iaload, 1) := by decide +kernel
theorem dL_law_1258 : decode cL_law 1258 = .ok (.aload_n 0, 1) := by decide +kernel
theorem dL_law_1259 : decode cL_law 1259 = .ok (.iload 4, 2) := by decide +kernel
theorem dL_law_1261 : decode cL_law 1261 = .ok (.iconst 2, 1) := by decide +kernel
theorem dL_law_1262 : decode cL_law 1262 = .ok (.iadd, 1) := by decide +kernel
theorem dL_law_1263 : decode cL_law 1263 = .ok (.iaload, 1) := by decide +kernel
theorem dL_law_1264 : decode cL_law 1264 = .ok (.invokevirtual 141, 3) := by decide +kernel
theorem dL_law_1267 : decode cL_law 1267 = .ok (.istore 6, 2) := by decide +kernel
theorem dL_law_1269 : decode cL_law 1269 = .ok (.aload_n 2, 1) := by decide +kernel
theorem dL_law_1270 : decode cL_law 1270 = .ok (.invokevirtual 85, 3) := by decide +kernel
theorem dL_law_1273 : decode cL_law 1273 = .ok (.iload 5, 2) := by decide +kernel
theorem dL_law_1275 : decode cL_law 1275 = .ok (.if_icmp .eq 5, 3) := by decide +kernel
theorem dL_law_1278 : decode cL_law 1278 = .ok (.iconst 0, 1) := by decide +kernel
theorem dL_law_1279 : decode cL_law 1279 = .ok (.ireturn, 1) := by decide +kernel
theorem dL_law_1280 : decode cL_law 1280 = .ok (.iload 5, 2) := by decide +kernel
theorem dL_law_1282 : decode cL_law 1282 = .ok (.ifCond .ne 15, 3) := by decide +kernel
theorem dL_law_1285 : decode cL_law 1285 = .ok (.aload_n 3, 1) := by decide +kernel
theorem dL_law_1286 : decode cL_law 1286 = .ok (.iconst 0, 1) := by decide +kernel
theorem dL_law_1287 : decode cL_law 1287 = .ok (.laload, 1) := by decide +kernel
theorem dL_law_1288 : decode cL_law 1288 = .ok (.iload 6, 2) := by decide +kernel
theorem dL_law_1290 : decode cL_law 1290 = .ok (.i2l, 1) := by decide +kernel
theorem dL_law_1291 : decode cL_law 1291 = .ok (.lcmp, 1) := by decide +kernel
theorem dL_law_1292 : decode cL_law 1292 = .ok (.ifCond .eq 5, 3) := by decide +kernel
theorem dL_law_1295 : decode cL_law 1295 = .ok (.iconst 0, 1) := by decide +kernel
theorem dL_law_1296 : decode cL_law 1296 = .ok (.ireturn, 1) := by decide +kernel
theorem dL_law_1297 : decode cL_law 1297 = .ok (.goto 126, 3) := by decide +kernel
theorem dL_law_1300 : decode cL_law 1300 = .ok (.aload_n 1, 1) := by decide +kernel
theorem dL_law_1301 : decode cL_law 1301 = .ok (.aload_n 0, 1) := by decide +kernel
theorem dL_law_1302 : decode cL_law 1302 = .ok (.iload 4, 2) := by decide +kernel
theorem dL_law_1304 : decode cL_law 1304 = .ok (.iconst 1, 1) := by decide +kernel
theorem dL_law_1305 : decode cL_law 1305 = .ok (.iadd, 1) := by decide +kernel
theorem dL_law_1306 : decode cL_law 1306 = .ok (.iaload, 1) := by decide +kernel
theorem dL_law_1307 : decode cL_law 1307 = .ok (.aload_n 0, 1) := by decide +kernel
theorem dL_law_1308 : decode cL_law 1308 = .ok (.iload 4, 2) := by decide +kernel
theorem dL_law_1310 : decode cL_law 1310 = .ok (.iconst 2, 1) := by decide +kernel
theorem dL_law_1311 : decode cL_law 1311 = .ok (.iadd, 1) := by decide +kernel
theorem dL_law_1312 : decode cL_law 1312 = .ok (.iaload, 1) := by decide +kernel
theorem dL_law_1313 : decode cL_law 1313 = .ok (.aload_n 3, 1) := by decide +kernel
theorem dL_law_1314 : decode cL_law 1314 = .ok (.invokestatic 142, 3) := by decide +kernel
theorem dL_law_1317 : decode cL_law 1317 = .ok (.istore 5, 2) := by decide +kernel
theorem dL_law_1319 : decode cL_law 1319 = .ok (.aload_n 2, 1) := by decide +kernel
theorem dL_law_1320 : decode cL_law 1320 = .ok (.aload_n 0, 1) := by decide +kernel
theorem dL_law_1321 : decode cL_law 1321 = .ok (.iload 4, 2) := by decide +kernel
theorem dL_law_1323 : decode cL_law 1323 = .ok (.iconst 1, 1) := by decide +kernel
theorem dL_law_1324 : decode cL_law 1324 = .ok (.iadd, 1) := by decide +kernel
theorem dL_law_1325 : decode cL_law 1325 = .ok (.iaload, 1) := by decide +kernel
theorem dL_law_1326 : decode cL_law 1326 = .ok (.aload_n 0, 1) := by decide +kernel
theorem dL_law_1327 : decode cL_law 1327 = .ok (.iload 4, 2) := by decide +kernel
theorem dL_law_1329 : decode cL_law 1329 = .ok (.iconst 2, 1) := by decide +kernel
theorem dL_law_1330 : decode cL_law 1330 = .ok (.iadd, 1) := by decide +kernel
theorem dL_law_1331 : decode cL_law 1331 = .ok (.iaload, 1) := by decide +kernel
theorem dL_law_1332 : decode cL_law 1332 = .ok (.invokevirtual 144, 3) := by decide +kernel
theorem dL_law_1335 : decode cL_law 1335 = .ok (.istore 6, 2) := by decide +kernel
theorem dL_law_1337 : decode cL_law 1337 = .ok (.aload_n 2, 1) := by decide +kernel
theorem dL_law_1338 : decode cL_law 1338 = .ok (.invokevirtual 85, 3) := by decide +kernel
theorem dL_law_1341 : decode cL_law 1341 = .ok (.iload 5, 2) := by decide +kernel
theorem dL_law_1343 : decode cL_law 1343 = .ok (.if_icmp .eq 5, 3) := by decide +kernel
theorem dL_law_1346 : decode cL_law 1346 = .ok (.iconst 0, 1) := by decide +kernel
theorem dL_law_1347 : decode cL_law 1347 = .ok (.ireturn, 1) := by decide +kernel
theorem dL_law_1348 : decode cL_law 1348 = .ok (.iload 5, 2) := by decide +kernel
theorem dL_law_1350 : decode cL_law 1350 = .ok (.ifCond .ne 15, 3) := by decide +kernel
theorem dL_law_1353 : decode cL_law 1353 = .ok (.aload_n 3, 1) := by decide +kernel
theorem dL_law_1354 : decode cL_law 1354 = .ok (.iconst 0, 1) := by decide +kernel
theorem dL_law_1355 : decode cL_law 1355 = .ok (.laload, 1) := by decide +kernel
theorem dL_law_1356 : decode cL_law 1356 = .ok (.iload 6, 2) := by decide +kernel
theorem dL_law_1358 : decode cL_law 1358 = .ok (.i2l, 1) := by decide +kernel
theorem dL_law_1359 : decode cL_law 1359 = .ok (.lcmp, 1) := by decide +kernel
theorem dL_law_1360 : decode cL_law 1360 = .ok (.ifCond .eq 5, 3) := by decide +kernel
theorem dL_law_1363 : decode cL_law 1363 = .ok (.iconst 0, 1) := by decide +kernel
theorem dL_law_1364 : decode cL_law 1364 = .ok (.ireturn, 1) := by decide +kernel
theorem dL_law_1365 : decode cL_law 1365 = .ok (.goto 58, 3) := by decide +kernel
theorem dL_law_1368 : decode cL_law 1368 = .ok (.aload_n 1, 1) := by decide +kernel
theorem dL_law_1369 : decode cL_law 1369 = .ok (.invokevirtual 145, 3) := by decide +kernel
theorem dL_law_1372 : decode cL_law 1372 = .ok (.dstore 5, 2) := by decide +kernel
theorem dL_law_1374 : decode cL_law 1374 = .ok (.aload_n 2, 1) := by decide +kernel
theorem dL_law_1375 : decode cL_law 1375 = .ok (.invokevirtual 149, 3) := by decide +kernel
theorem dL_law_1378 : decode cL_law 1378 = .ok (.dstore 7, 2) := by decide +kernel
theorem dL_law_1380 : decode cL_law 1380 = .ok (.dload 5, 2) := by decide +kernel
theorem dL_law_1382 : decode cL_law 1382 = .ok (.dload 7, 2) := by decide +kernel
theorem dL_law_1384 : decode cL_law 1384 = .ok (.dcmp .l, 1) := by decide +kernel
theorem dL_law_1385 : decode cL_law 1385 = .ok (.ifCond .eq 21, 3) := by decide +kernel
theorem dL_law_1388 : decode cL_law 1388 = .ok (.dload 5, 2) := by decide +kernel
theorem dL_law_1390 : decode cL_law 1390 = .ok (.dload 5, 2) := by decide +kernel
theorem dL_law_1392 : decode cL_law 1392 = .ok (.dcmp .l, 1) := by decide +kernel
theorem dL_law_1393 : decode cL_law 1393 = .ok (.ifCond .eq 11, 3) := by decide +kernel
theorem dL_law_1396 : decode cL_law 1396 = .ok (.dload 7, 2) := by decide +kernel
theorem dL_law_1398 : decode cL_law 1398 = .ok (.dload 7, 2) := by decide +kernel
theorem dL_law_1400 : decode cL_law 1400 = .ok (.dcmp .l, 1) := by decide +kernel
theorem dL_law_1401 : decode cL_law 1401 = .ok (.ifCond .ne 5, 3) := by decide +kernel
theorem dL_law_1404 : decode cL_law 1404 = .ok (.iconst 0, 1) := by decide +kernel
theorem dL_law_1405 : decode cL_law 1405 = .ok (.ireturn, 1) := by decide +kernel
theorem dL_law_1406 : decode cL_law 1406 = .ok (.goto 17, 3) := by decide +kernel
theorem dL_law_1409 : decode cL_law 1409 = .ok (.aload_n 1, 1) := by decide +kernel
theorem dL_law_1410 : decode cL_law 1410 = .ok (.invokevirtual 150, 3) := by decide +kernel
theorem dL_law_1413 : decode cL_law 1413 = .ok (.aload_n 2, 1) := by decide +kernel
theorem dL_law_1414 : decode cL_law 1414 = .ok (.invokevirtual 154, 3) := by decide +kernel
theorem dL_law_1417 : decode cL_law 1417 = .ok (.lcmp, 1) := by decide +kernel
theorem dL_law_1418 : decode cL_law 1418 = .ok (.ifCond .eq 5, 3) := by decide +kernel
theorem dL_law_1421 : decode cL_law 1421 = .ok (.iconst 0, 1) := by decide +kernel
theorem dL_law_1422 : decode cL_law 1422 = .ok (.ireturn, 1) := by decide +kernel
theorem dL_law_1423 : decode cL_law 1423 = .ok (.iinc 4 4, 3) := by decide +kernel
theorem dL_law_1426 : decode cL_law 1426 = .ok (.goto (-1403), 3) := by decide +kernel
theorem dL_law_1429 : decode cL_law 1429 = .ok (.iconst 1, 1) := by decide +kernel
theorem dL_law_1430 : decode cL_law 1430 = .ok (.ireturn, 1) := by decide +kernel
end
section
/-! ===== the facts and the world that every contract of this claim carries ===== -/
abbrev zT : Type := va_G × ClassId × ClassId × ClassId × Nat
abbrev zD (Z : zT) : va_G := Z.1
abbrev zI (Z : zT) (n : Nat) (f : Nat → Int32) : va_E := .inl (Z.2.1, n, .inl f)
abbrev zQ (Z : zT) (n : Nat) (f : Nat → Option Nat) : va_E := .inl (Z.2.2.1, n, .inr (.inr (.inr (.inr f))))
abbrev zL (Z : zT) (n : Nat) (f : Nat → Int64) : va_E := .inl (Z.2.2.2.1, n, .inr (.inl f))
abbrev zb (Z : zT) : Nat := Z.2.2.2.2
abbrev zty (Z : zT) : List (ClassId × FieldType) := [(Z.2.1, .int), (Z.2.2.1, .object RX0), (Z.2.2.2.1, .long)]
abbrev zEs : List String := ["java/lang/RuntimeException", "java/lang/Exception"]
abbrev zE1 : String := "java/lang/IndexOutOfBoundsException"
abbrev zE2 : String := "java/lang/IllegalArgumentException"
abbrev zE3 : String := "java/lang/IllegalStateException"
/-- the exceptions of the document, by number -/
def zEx : Nat → String
  | 1 => zE1
  | 2 => zE2
  | _ => zE3
def zNs : List Cond := [.methodLinkNest RX4 9 yX2_init RX4, .methodLinkNest RX4 28 yX3_init RX4, .methodLinkNest RX4 35 yX1_init RX4, .methodLinkNest RX2 24 yX4_isLigature RX4, .methodLinkNest RX0 11 yX2_init RX4, .methodLinkNest RX1 40 yX4_isLigature RX4, .fieldLinkNest RX4 104 RX0 "tray" "LTypeFoundry$Sorts;" RX4, .fieldLinkNest RX4 143 RX0 "form" "LTypeFoundry$Sorts;" RX4, .fieldLinkNest RX4 119 RX0 "coins" "I" RX4, .fieldLinkNest RX4 116 RX0 "owed" "I" RX4, .fieldLinkNest RX4 165 RX0 "copies" "I" RX4, .fieldLinkNest RX4 155 RX0 "words" "I" RX4, .castable zE1 zE1, .castable zE2 zE2, .castable zE3 zE3, .declares ⟨"java/lang/RuntimeException", "<init>", "(Ljava/lang/String;)V"⟩, .declares ⟨"java/lang/Exception", "<init>", "(Ljava/lang/String;)V"⟩, .declares ⟨"java/lang/Throwable", "<init>", "(Ljava/lang/String;)V"⟩]
def zN (U : State) : Prop := ∀ w ∈ zNs, va_Nw w U
theorem zN.warm {s U : State} (hW : s.WarmedH U.vm) (h : zN s) : zN U := by
  intro w hw
  have h0 := h w hw
  simp only [zNs, List.mem_cons, List.not_mem_nil, or_false] at hw
  rcases hw with rfl | rfl | rfl | rfl | rfl | rfl | rfl | rfl | rfl | rfl | rfl | rfl | rfl | rfl | rfl | rfl | rfl | rfl
  · exact va_Nw.warmM hW h0
  · exact va_Nw.warmM hW h0
  · exact va_Nw.warmM hW h0
  · exact va_Nw.warmM hW h0
  · exact va_Nw.warmM hW h0
  · exact va_Nw.warmM hW h0
  · exact va_Nw.warmF hW h0
  · exact va_Nw.warmF hW h0
  · exact va_Nw.warmF hW h0
  · exact va_Nw.warmF hW h0
  · exact va_Nw.warmF hW h0
  · exact va_Nw.warmF hW h0
  · exact va_Nw.warmC hW h0
  · exact va_Nw.warmC hW h0
  · exact va_Nw.warmC hW h0
  · exact va_Nw.warmD hW h0
  · exact va_Nw.warmD hW h0
  · exact va_Nw.warmD hW h0
/-- the texts of the exceptions: entry, text -/
def zStr : List (Nat × String) := [(102, "there are not so many in the stock"), (111, "there are not so many in the case"), (141, "the word cannot be set"), (150, "there would be more than 60 sorts in the form"), (158, "copies is not 1 to 1000"), (160, "the form is empty"), (171, "days is not 1 to 100"), (181, "wear is not 0 to 9"), (187, "what is not 0 to 6"), (192, "what is not 0 to 7"), (222, "sign is not 0 to 28"), (224, "many is not 1 to 200"), (226, "there is no such printer"), (231, "word is no word"), (53, "there is not so much metal"), (62, "there would be more than 999 sorts of the sign in the stock"), (73, "wear is not 1 to 9"), (79, "there would be more than 9999 of metal"), (87, "metal is not 1 to 2000"), (89, "coins is not 0 to 5000"), (94, "there are 6 printers")]
def zSt (U : State) : Prop := ∀ q ∈ zStr, ∃ sa : Nat, vk_R RX4 q.1 q.2 sa U
def zNc : List (String × String) := [(zE1, zE2), (zE1, zE3), (zE2, zE1), (zE2, zE3), (zE3, zE1), (zE3, zE2)]
def zC (U : State) : Prop := ∀ q ∈ zNc, va_Nc q.1 q.2 U
def zK (Z : zT) (U : State) : Prop := va_K (zD Z) vwCl (zty Z) U ∧ zN U ∧ zSt U ∧ zC U ∧ va_AO RX0 U
theorem zK.warm {Z : zT} {s U : State} (hW : s.WarmedH U.vm) (h : zK Z s) : zK Z U :=
  ⟨va_K.moved hW.alike h.1, zN.warm hW h.2.1, fun q hq => by obtain ⟨sa, hs⟩ := h.2.2.1 q hq; exact ⟨sa, vk_R.warm hW hs⟩, fun q hq => va_Nc.moved hW.alike (h.2.2.2.1 q hq), va_AO.moved hW.alike h.2.2.2.2⟩
def zH (Z : zT) (U : State) (H : Heap) : Prop := vx_Zq Bundle.tN "UNASSIGNED_STACK" Bundle.steD (fun q => zb Z ≤ q) U H ∧ vx_Zq Bundle.tN "SUPPRESSED_SENTINEL" Bundle.listD (fun q => zb Z ≤ q) U H
theorem zH.moved {Z : zT} {u U : State} {H : Heap} (hvm : u.vm.Alike U.vm) (h : zH Z u H) : zH Z U H := ⟨vx_Zq.moved hvm h.1, vx_Zq.moved hvm h.2⟩
theorem zH.kept {Z : zT} {U : State} {H H1 : Heap} (h : zH Z U H) (hq : ∀ a : Nat, a < H.size → ¬ zb Z ≤ a → H1[a]? = H[a]?) : zH Z U H1 := ⟨vx_Zq.kept h.1 hq, vx_Zq.kept h.2 hq⟩
/-- what a method's start gives of the state -/
def zX (Z : zT) (s : State) (A : Nat → Prop) : Prop := zK Z s ∧ zH Z s s.heap ∧ (∀ q, A q → zb Z ≤ q) ∧ (∀ q, s.heap.size ≤ q → A q) ∧ zb Z ≤ s.heap.size
/-- the world at a point of the method -/
def zW (Z : zT) (s : State) (A : Nat → Prop) (ws : va_W) (H : Heap) (locs : List Loc) : Prop := va_P (zD Z) vwCl ws H ∧ va_D A ws ∧ va_S A s.heap H locs
def zPre (Z : zT) (ws : va_W) (sz : Nat) : State → Prop := fun U => U.heap.size = sz ∧ zb Z ≤ sz ∧ va_P (zD Z) vwCl ws U.heap ∧ zK Z U ∧ va_D (fun q => zb Z ≤ q) ws ∧ zH Z U U.heap
def zB (Z : zT) (ws : va_W) (A : Nat → Prop) : State → Prop := fun t => va_P (zD Z) vwCl ws t.heap ∧ va_D A ws
abbrev zQi {S : Type} (Z : zT) (post : Int32 → S → Prop) (W' : S → va_W) (A : Nat → Prop) : Array Value → State → Outcome → State → Prop := va_Qi post (fun u => zB Z (W' u) A) A
abbrev zQl {S : Type} (Z : zT) (post : Int64 → S → Prop) (W' : S → va_W) (A : Nat → Prop) : Array Value → State → Outcome → State → Prop := va_Ql post (fun u => zB Z (W' u) A) A
abbrev zQd {S : Type} (Z : zT) (post : UInt64 → S → Prop) (W' : S → va_W) (A : Nat → Prop) : Array Value → State → Outcome → State → Prop := va_Qd post (fun u => zB Z (W' u) A) A
abbrev zQv {S : Type} (Z : zT) (post : S → Prop) (W' : S → va_W) (A : Nat → Prop) : Array Value → State → Outcome → State → Prop := va_Qv post (fun u => zB Z (W' u) A) A
/-- an answer that is one of the world's cells, at the address ra u -/
abbrev zQr {S : Type} (Z : zT) (post : S → Prop) (ra : S → Nat) (W' : S → va_W) (A : Nat → Prop) : Array Value → State → Outcome → State → Prop := va_Qr post (fun u a t => a = ra u ∧ zB Z (W' u) A t) A
/-- what a throw says: which exception (by number), and the world -/
abbrev zXC {S : Type} (Z : zT) (px : Nat → S → Prop) (W' : S → va_W) (A : Nat → Prop) : String → State → State → Prop := vx_X (fun u : Nat × S => px u.1 u.2) (fun E u t => E = zEx u.1 ∧ zB Z (W' u.2) A t) A
def zMet (l : Launch) (y : MethodName) (wsY : List Cond) (rm : Room) (as : List Value) (Z : zT) (ws : va_W) (Qc : (Nat → Prop) → Array Value → State → Outcome → State → Prop) (mc ms : Nat) : Prop := ∀ sz : Nat, Met l y wsY rm (va_Pc as (zPre Z ws sz)) (Qc (va_A ws sz)) mc ms (va_A ws sz)
def zTet (l : Launch) (y : MethodName) (wsY : List Cond) (rm : Room) (as : List Value) (Z : zT) (ws : va_W) (Qc : (Nat → Prop) → Array Value → State → Outcome → State → Prop) (XC : (Nat → Prop) → String → State → State → Prop) (mc ms : Nat) : Prop := ∀ sz : Nat, vx_Met l y wsY rm (va_Pc as (zPre Z ws sz)) (Qc (va_A ws sz)) (XC (va_A ws sz)) mc ms (va_A ws sz)
theorem zpick {ws wc : va_W} {is : List Nat} (hC : is.map (fun i => ws[i]?) = wc.map some) (k : Nat) (q : Nat × va_E) (hk : wc[k]? = some q) : ∃ i, is[k]? = some i ∧ ws[i]? = some q := by
  have h1 : (is.map (fun i => ws[i]?))[k]? = some (some q) := by rw [hC, List.getElem?_map, hk]; rfl
  rw [List.getElem?_map] at h1
  cases hi : is[k]? with
  | none => rw [hi] at h1; cases h1
  | some i => rw [hi] at h1; exact ⟨i, rfl, Option.some.inj h1⟩
theorem zPsub {D : va_G} {cl : List vw_C} {ws wc : va_W} {H : Heap} {is : List Nat} (h : va_P D cl ws H) (hC : is.map (fun i => ws[i]?) = wc.map some) : va_P D cl wc H := fun k q hk => by
  obtain ⟨i, -, hi⟩ := zpick hC k q hk
  exact h i q hi
theorem zblind {Z : zT} {as : List Value} {ws : va_W} {sz : Nat} : FrameBlind (va_Pc as (zPre Z ws sz)) := by
  intro a U g mk h
  obtain ⟨h1, h2, h3, h4, h5, h6, h7⟩ := h
  exact ⟨h1, h2, h3, h4, zK.warm (s := U) (U := U.calling g mk a) (State.WarmedH.refl U) h5, h6, zH.moved (u := U) (U := U.calling g mk a) (Vm.Alike.refl U.vm) h7⟩
section ZA
variable {p : Program} {l : Launch} {e : Env} {R : Room} {s : State} {m : MethodId} {args : Array Value} {below : List Frame} {meth : Method} {c : Code} {H : Heap} {locs : List Loc} {cells slots : Nat} {Q : State → Prop}
variable {Z : zT} {A : Nat → Prop} {ws : va_W}
theorem zpreU (X : zX Z s A) (h : zW Z s A ws H locs) {wc : va_W} (is : List Nat) (hC : is.map (fun i => ws[i]?) = wc.map some) (hn : va_nd is = true) {U : State} (hU : U.heap = H) (hW : s.WarmedH U.vm) : zPre Z wc H.size U := by
  obtain ⟨hK, hH, hA, hA2, hz⟩ := X
  obtain ⟨hP, hD, hS⟩ := h
  refine ⟨by rw [hU], Nat.le_trans hz hS.1, by rw [hU]; exact zPsub hP hC, zK.warm hW hK, (hD.sub is hn hC).weaken (fun _ _ _ q => hA _ q), ?_⟩
  rw [hU]
  exact zH.moved hW.alike (hH.kept (fun a h1 h2 => hS.2.1 a h1 (fun q => h2 (hA a q))))
theorem zpreS (X : zX Z s A) (h : zW Z s A ws H locs) {wc : va_W} {as : List Value} (is : List Nat) (hC : is.map (fun i => ws[i]?) = wc.map some) (hn : va_nd is = true) : PreS s H (va_Pc as (zPre Z wc H.size)) as :=
  ⟨zblind, fun U hU hW => ⟨rfl, zpreU X h is hC hn hU hW⟩⟩
theorem zpreV (X : zX Z s A) (h : zW Z s A ws H locs) {wc : va_W} {as : List Value} {b q0 ci : Nat} {q : vw_C} {fs : List Value} (hc : vwCl[ci]? = some q) (he : ws[q0]? = some (b, .inr (ci, fs))) (is : List Nat) (hC : is.map (fun i => ws[i]?) = wc.map some) (hn : va_nd is = true) : PreV s H q.1 b (va_Pc (.ref b :: as) (zPre Z wc H.size)) as :=
  ⟨zblind, va_recv X.1.1 h.1 hc he, fun U hU hW => ⟨rfl, zpreU X h is hC hn hU hW⟩⟩
end ZA
/-- the world with the cells at the places 'is' put anew -/
def zput (ws : va_W) (is : List Nat) (w : va_W) : va_W := (is.zip w).foldl (fun a p => a.set p.1 p.2) ws
theorem zput_spec : ∀ (is : List Nat) (ws w : va_W), va_nd is = true → w.length = is.length → ∀ (k : Nat) (q : Nat × va_E), (zput ws is w)[k]? = some q → (k ∉ is ∧ ws[k]? = some q) ∨ ∃ i : Nat, is[i]? = some k ∧ w[i]? = some q := by
  intro is
  induction is with
  | nil =>
    intro ws w _ _ k q h
    exact Or.inl ⟨List.not_mem_nil, h⟩
  | cons i is ih =>
    intro ws w hn hl k q h
    cases w with
    | nil => simp at hl
    | cons q0 w =>
      simp only [va_nd, Bool.and_eq_true, decide_eq_true_eq] at hn
      have h' : (zput (ws.set i q0) is w)[k]? = some q := h
      rcases ih (ws.set i q0) w hn.2 (by simpa using hl) k q h' with ⟨h1, h2⟩ | ⟨j, h1, h2⟩
      · by_cases hk : k = i
        · subst hk
          have hlt : k < ws.length := by
            have := (List.getElem?_eq_some_iff.mp h2).1
            simpa using this
          rw [List.getElem?_set_self hlt] at h2
          exact Or.inr ⟨0, rfl, h2⟩
        · rw [List.getElem?_set_ne (Ne.symm hk)] at h2
          exact Or.inl ⟨fun z => (List.mem_cons.mp z).elim hk h1, h2⟩
      · exact Or.inr ⟨j + 1, h1, h2⟩
/-- behind a call: the callee's cells as they are now, the others unchanged; cells that the callee made stand at the end -/
theorem zjoin {A0 : Nat → Prop} {D : va_G} {cl : List vw_C} {ws wc wa wb : va_W} {H H1 : Heap} (hP : va_P D cl ws H) (hD : va_D A0 ws) (is : List Nat) (hC : is.map (fun i => ws[i]?) = wc.map some) (hn : va_nd is = true) (hl : wa.length = is.length)
    (hk : ∀ q : Nat, q < H.size → ¬ va_A wc H.size q → H1[q]? = H[q]?) (hF : ∀ q, va_A wc H.size q → A0 q) (hP1 : va_P D cl (wa ++ wb) H1) (hD1 : va_D (va_A wc H.size) (wa ++ wb)) : va_P D cl (zput ws is wa ++ wb) H1 ∧ va_D A0 (zput ws is wa ++ wb) := by
  have key : ∀ (k : Nat) (q : Nat × va_E), (zput ws is wa ++ wb)[k]? = some q → (∃ j, is.contains j = false ∧ ws[j]? = some q ∧ k = j) ∨ ∃ i, (wa ++ wb)[i]? = some q ∧ ((i < wa.length ∧ is[i]? = some k) ∨ (wa.length ≤ i ∧ k = (zput ws is wa).length + (i - wa.length))) := by
    intro k q hq
    by_cases hlt : k < (zput ws is wa).length
    · rw [List.getElem?_append_left hlt] at hq
      rcases zput_spec is ws wa hn hl k q hq with ⟨h1, h2⟩ | ⟨i, h1, h2⟩
      · exact Or.inl ⟨k, by simpa using h1, h2, rfl⟩
      · have hi := (List.getElem?_eq_some_iff.mp h2).1
        exact Or.inr ⟨i, by rw [List.getElem?_append_left hi]; exact h2, Or.inl ⟨hi, h1⟩⟩
    · rw [List.getElem?_append_right (by omega)] at hq
      exact Or.inr ⟨wa.length + (k - (zput ws is wa).length), by rw [List.getElem?_append_right (by omega), Nat.add_sub_cancel_left]; exact hq, Or.inr ⟨by omega, by omega⟩⟩
  have off : ∀ (j : Nat) (q : Nat × va_E), is.contains j = false → ws[j]? = some q → q.1 < H.size ∧ ¬ va_A wc H.size q.1 := by
    intro j q hj hq
    have hlt := (hP j q hq).lt
    refine ⟨hlt, fun h => ?_⟩
    rcases h with ⟨k2, e, h⟩ | h
    · obtain ⟨i, h3, h4⟩ := zpick hC k2 (q.1, e) h
      have hij := hD.1 j i q (q.1, e) hq h4 rfl
      subst hij
      have := List.mem_of_getElem? h3
      simp at hj
      exact hj this
    · omega
  refine ⟨fun k q hq => ?_, fun i j x y hi hj hxy => ?_, fun k q hq => ?_⟩
  · rcases key k q hq with ⟨j, h1, h2, -⟩ | ⟨i, h1, -⟩
    · obtain ⟨g1, g2⟩ := off j q h1 h2
      exact (hP j q h2).kept (hk q.1 g1 g2)
    · exact hP1 i q h1
  · rcases key i x hi with ⟨a, h1, h2, rfl⟩ | ⟨a, h1, h2⟩ <;> rcases key j y hj with ⟨b, h3, h4, rfl⟩ | ⟨b, h3, h4⟩
    · exact hD.1 _ _ x y h2 h4 hxy
    · exact absurd (by rw [hxy]; exact hD1.2 b y h3) (off _ x h1 h2).2
    · exact absurd (by rw [← hxy]; exact hD1.2 a x h1) (off _ y h3 h4).2
    · have hab := hD1.1 a b x y h1 h3 hxy
      subst hab
      rcases h2 with ⟨l2, h2⟩ | ⟨l2, h2⟩ <;> rcases h4 with ⟨l4, h4⟩ | ⟨l4, h4⟩
      · exact Option.some.inj (h2.symm.trans h4)
      · omega
      · omega
      · omega
  · rcases key k q hq with ⟨j, h1, h2, -⟩ | ⟨i, h1, -⟩
    · exact hD.2 j q h2
    · exact hF _ (hD1.2 i q h1)
end
section
/-! ===== a method's start ===== -/
theorem zstart {l : Launch} {y : MethodName} {wsY ws' : List Cond} {rm : Room} {as : List Value} {Z : zT} {ws : va_W} {Qc : (Nat → Prop) → Array Value → State → Outcome → State → Prop} {mc ms : Nat} {cc : ByteArray} {maxL : Nat} {ret : Option FieldType}
    (hy : plainName y.cls = true) (hw : wsY = Cond.code y cc maxL ret :: ws') (hlen : (lg_sl as).length ≤ maxL)
    (body : ∀ (p : Program) (e : Env) (s : State) (m : MethodId) (below : List Frame) (meth : Method) (c : Code) (ls : Array Slot) (A : Nat → Prop), p.tables.exec = Jvm.exec → c.code = cc → meth.sig.returnType = ret → CallFix p m c cc maxL s as.toArray wsY y.cls → meth.locks = false → meth.name = y.name → zX Z s A → zW Z s A ws s.heap [] → lv_has ls maxL (lv_args 0 as) →
      W p l e rm s m as.toArray below meth c s.heap [] 0 0 (MQ below (Qc A) as.toArray s mc ms A) (F0 m 0 ls [])) : zMet l y wsY rm as Z ws Qc mc ms := by
  intro sz
  refine Met.ofW (cc := cc) (maxL := maxL) (ret := ret) hy hw ?_
  intro p e s m args below meth c s₁ B hml hv
  obtain ⟨rfl, hsz, hz, hP, hK, hD, hH⟩ := hv
  subst hsz
  rw [lg_entry_eq]
  refine body p e s m below meth c _ _ B.exec B.bytes B.returns ⟨B.exec, B.bytes, hml, findClass_of_methodNamed B.named, atoms_spec (ws := wsY) B.pre⟩ B.notSynchronized (name_of_methodNamed B.named B.method).1 ⟨hK, hH, fun q h => ?_, fun q h => Or.inr h, hz⟩ ⟨hP, hD.self, va_S.rf⟩ (lv_entry as hlen)
  rcases h with ⟨k, e9, h⟩ | h
  · exact hD.2 k (q, e9) h
  · exact Nat.le_trans hz h
/-- of a method that may throw, and has no table of its own -/
theorem ztstart {l : Launch} {y : MethodName} {wsY ws' : List Cond} {rm : Room} {as : List Value} {Z : zT} {ws : va_W} {Qc : (Nat → Prop) → Array Value → State → Outcome → State → Prop} {XC : (Nat → Prop) → String → State → State → Prop} {mc ms : Nat} {cc : ByteArray} {maxL : Nat} {ret : Option FieldType}
    (hy : plainName y.cls = true) (hw : wsY = Cond.code y cc maxL ret :: ws') (hlen : (lg_sl as).length ≤ maxL)
    (body : ∀ (p : Program) (e : Env) (s : State) (m : MethodId) (below : List Frame) (meth : Method) (c : Code) (ls : Array Slot) (A : Nat → Prop), p.tables.exec = Jvm.exec → c.code = cc → meth.sig.returnType = ret → CallFix p m c cc maxL s as.toArray wsY y.cls → meth.locks = false → (∀ x ∈ c.exceptionTable.toList, False) → zX Z s A → zW Z s A ws s.heap [] → lv_has ls maxL (lv_args 0 as) →
      W p l e rm s m as.toArray below meth c s.heap [] 0 0 (vx_MQ below (Qc A) (XC A) as.toArray s mc ms A) (F0 m 0 ls [])) : zTet l y wsY rm as Z ws Qc XC mc ms := by
  intro sz
  refine vx_ofW (cc := cc) (maxL := maxL) (ret := ret) hy hw ?_
  intro p e s m args below meth c s₁ B hml hno hv
  obtain ⟨rfl, hsz, hz, hP, hK, hD, hH⟩ := hv
  subst hsz
  rw [lg_entry_eq]
  refine body p e s m below meth c _ _ B.exec B.bytes B.returns ⟨B.exec, B.bytes, hml, findClass_of_methodNamed B.named, atoms_spec (ws := wsY) B.pre⟩ B.notSynchronized hno ⟨hK, hH, fun q h => ?_, fun q h => Or.inr h, hz⟩ ⟨hP, hD.self, va_S.rf⟩ (lv_entry as hlen)
  rcases h with ⟨k, e9, h⟩ | h
  · exact hD.2 k (q, e9) h
  · exact Nat.le_trans hz h
/-- of a method with a table of its own that lets nothing out -/
theorem zhstart {l : Launch} {y : MethodName} {wsY ws' : List Cond} {rm : Room} {as : List Value} {Z : zT} {ws : va_W} {Qc : (Nat → Prop) → Array Value → State → Outcome → State → Prop} {mc ms : Nat} {cc : ByteArray} {maxL : Nat} {ret : Option FieldType} {hh : List (Nat × Nat × Nat × Nat)}
    (hy : plainName y.cls = true) (hw : wsY = Cond.codeWith y cc maxL ret hh :: ws') (hlen : (lg_sl as).length ≤ maxL)
    (body : ∀ (p : Program) (e : Env) (s : State) (m : MethodId) (below : List Frame) (meth : Method) (c : Code) (ls : Array Slot) (A : Nat → Prop), p.tables.exec = Jvm.exec → c.code = cc → meth.sig.returnType = ret → CallFix p m c cc maxL s as.toArray wsY y.cls → meth.locks = false → c.exceptionTable.toList = tableOf hh → zX Z s A → zW Z s A ws s.heap [] → lv_has ls maxL (lv_args 0 as) →
      W p l e rm s m as.toArray below meth c s.heap [] 0 0 (MQ below (Qc A) as.toArray s mc ms A) (F0 m 0 ls [])) : zMet l y wsY rm as Z ws Qc mc ms := by
  intro sz
  refine MetFree.of_bodyS (code := cc) (maxLocals := maxL) (ret := ret) hy ?_ ?_
  · intro args s m h hn
    obtain ⟨m9, meth, c, hn9, h1, h2, h3, h4, -, h5, h6, -⟩ := Cond.codeWith_spec (atoms_spec (ws := wsY) h _ (by rw [hw]; exact List.mem_cons_self))
    cases hn.symm.trans hn9
    exact ⟨meth, c, h1, h2, h3, h4, h5, h6⟩
  · intro p e s m args below meth c s₁ B hml hP0 _
    have hh0 : s₁.heap = s.heap := by rw [B.state]; rfl
    have htab := vx_table (x := y) B (atoms_spec (ws := wsY) B.pre _ (by rw [hw]; exact List.mem_cons_self))
    have K : W p l e rm s m args below meth c s.heap [] 0 0 (MQ below (Qc (va_A ws sz)) args s mc ms (va_A ws sz)) (entryFrame m args maxL) := by
      obtain ⟨rfl, hsz, hz, hP, hK, hD, hH⟩ := hP0
      subst hsz
      rw [lg_entry_eq]
      refine body p e s m below meth c _ _ B.exec B.bytes B.returns ⟨B.exec, B.bytes, hml, findClass_of_methodNamed B.named, atoms_spec (ws := wsY) B.pre⟩ B.notSynchronized htab ⟨hK, hH, fun q h => ?_, fun q h => Or.inr h, hz⟩ ⟨hP, hD.self, va_S.rf⟩ (lv_entry as hlen)
      rcases h with ⟨k, e9, h⟩ | h
      · exact hD.2 k (q, e9) h
      · exact Nat.le_trans hz h
    obtain ⟨t, a1, o, b1, b2, b3⟩ := K s₁ hh0 (Stand.of_body B)
    exact ⟨t, o, a1, b1, b2, ⟨b3.1, b3.2⟩⟩
section ZR
variable {p : Program} {l : Launch} {e : Env} {R : Room} {s : State} {m : MethodId} {args : Array Value} {below : List Frame} {meth : Method} {c : Code} {H : Heap} {locs : List Loc} {cells slots : Nat} {Q : State → Prop}
variable {cc : ByteArray} {pc : Nat} {ls : Array Slot} {rest : List Value} {Z : zT} {A : Nat → Prop} {ws : va_W}
/-! ===== numbers ===== -/
theorem zw_topi {x y : Int32} (h : x = y) (k : W p l e R s m args below meth c H locs cells slots Q (F0 m pc ls (.int y :: rest))) : W p l e R s m args below meth c H locs cells slots Q (F0 m pc ls (.int x :: rest)) := by rw [h]; exact k
theorem zw_topl {x y : Int64} (h : x = y) (k : W p l e R s m args below meth c H locs cells slots Q (F0 m pc ls (.long y :: rest))) : W p l e R s m args below meth c H locs cells slots Q (F0 m pc ls (.long x :: rest)) := by rw [h]; exact k
theorem zn_icmp_eq (hx : p.tables.exec = Jvm.exec) (hb : c.code = cc) {a b : Nat} {off : Int} {tgt : Nat} (ha : a < 2 ^ 31) (hb2 : b < 2 ^ 31) (hdg : decode cc pc = .ok (.if_icmp .eq off, 3)) (ht : (pc : Int) + off = (tgt : Int))
    (kt : a = b → W p l e R s m args below meth c H locs cells slots Q (F0 m tgt ls rest)) (kf : ¬ a = b → W p l e R s m args below meth c H locs cells slots Q (F0 m (pc + 3) ls rest)) : W p l e R s m args below meth c H locs cells slots Q (F0 m pc ls (.int (nI b) :: .int (nI a) :: rest)) :=
  lv_icmp_eq hx hb hdg ht (fun h => kt ((nI_eq ha hb2).mp h)) (fun h => kf (fun q => h ((nI_eq ha hb2).mpr q)))
theorem zn_icmp_ne (hx : p.tables.exec = Jvm.exec) (hb : c.code = cc) {a b : Nat} {off : Int} {tgt : Nat} (ha : a < 2 ^ 31) (hb2 : b < 2 ^ 31) (hdg : decode cc pc = .ok (.if_icmp .ne off, 3)) (ht : (pc : Int) + off = (tgt : Int))
    (kt : ¬ a = b → W p l e R s m args below meth c H locs cells slots Q (F0 m tgt ls rest)) (kf : a = b → W p l e R s m args below meth c H locs cells slots Q (F0 m (pc + 3) ls rest)) : W p l e R s m args below meth c H locs cells slots Q (F0 m pc ls (.int (nI b) :: .int (nI a) :: rest)) :=
  lv_icmp_ne hx hb hdg ht (fun h => kt (fun q => h ((nI_eq ha hb2).mpr q))) (fun h => kf ((nI_eq ha hb2).mp h))
theorem zn_icmp_lt (hx : p.tables.exec = Jvm.exec) (hb : c.code = cc) {a b : Nat} {off : Int} {tgt : Nat} (ha : a < 2 ^ 31) (hb2 : b < 2 ^ 31) (hdg : decode cc pc = .ok (.if_icmp .lt off, 3)) (ht : (pc : Int) + off = (tgt : Int))
    (kt : a < b → W p l e R s m args below meth c H locs cells slots Q (F0 m tgt ls rest)) (kf : ¬ a < b → W p l e R s m args below meth c H locs cells slots Q (F0 m (pc + 3) ls rest)) : W p l e R s m args below meth c H locs cells slots Q (F0 m pc ls (.int (nI b) :: .int (nI a) :: rest)) :=
  lv_icmp_lt hx hb hdg ht (fun h => kt ((nI_ltI ha hb2).mp h)) (fun h => kf (fun q => h ((nI_ltI ha hb2).mpr q)))
theorem zn_icmp_ge (hx : p.tables.exec = Jvm.exec) (hb : c.code = cc) {a b : Nat} {off : Int} {tgt : Nat} (ha : a < 2 ^ 31) (hb2 : b < 2 ^ 31) (hdg : decode cc pc = .ok (.if_icmp .ge off, 3)) (ht : (pc : Int) + off = (tgt : Int))
    (kt : b ≤ a → W p l e R s m args below meth c H locs cells slots Q (F0 m tgt ls rest)) (kf : ¬ b ≤ a → W p l e R s m args below meth c H locs cells slots Q (F0 m (pc + 3) ls rest)) : W p l e R s m args below meth c H locs cells slots Q (F0 m pc ls (.int (nI b) :: .int (nI a) :: rest)) :=
  lv_icmp_ge hx hb hdg ht (fun h => kt ((nI_leI hb2 ha).mp h)) (fun h => kf (fun q => h ((nI_leI hb2 ha).mpr q)))
theorem zn_icmp_gt (hx : p.tables.exec = Jvm.exec) (hb : c.code = cc) {a b : Nat} {off : Int} {tgt : Nat} (ha : a < 2 ^ 31) (hb2 : b < 2 ^ 31) (hdg : decode cc pc = .ok (.if_icmp .gt off, 3)) (ht : (pc : Int) + off = (tgt : Int))
    (kt : b < a → W p l e R s m args below meth c H locs cells slots Q (F0 m tgt ls rest)) (kf : ¬ b < a → W p l e R s m args below meth c H locs cells slots Q (F0 m (pc + 3) ls rest)) : W p l e R s m args below meth c H locs cells slots Q (F0 m pc ls (.int (nI b) :: .int (nI a) :: rest)) :=
  lv_icmp_gt hx hb hdg ht (fun h => kt ((nI_ltI hb2 ha).mp h)) (fun h => kf (fun q => h ((nI_ltI hb2 ha).mpr q)))
theorem zn_icmp_le (hx : p.tables.exec = Jvm.exec) (hb : c.code = cc) {a b : Nat} {off : Int} {tgt : Nat} (ha : a < 2 ^ 31) (hb2 : b < 2 ^ 31) (hdg : decode cc pc = .ok (.if_icmp .le off, 3)) (ht : (pc : Int) + off = (tgt : Int))
    (kt : a ≤ b → W p l e R s m args below meth c H locs cells slots Q (F0 m tgt ls rest)) (kf : ¬ a ≤ b → W p l e R s m args below meth c H locs cells slots Q (F0 m (pc + 3) ls rest)) : W p l e R s m args below meth c H locs cells slots Q (F0 m pc ls (.int (nI b) :: .int (nI a) :: rest)) :=
  lv_icmp_le hx hb hdg ht (fun h => kt ((nI_leI ha hb2).mp h)) (fun h => kf (fun q => h ((nI_leI ha hb2).mpr q)))
theorem zn_if_eq (hx : p.tables.exec = Jvm.exec) (hb : c.code = cc) {a : Nat} {off : Int} {tgt : Nat} (ha : a < 2 ^ 31) (hdg : decode cc pc = .ok (.ifCond .eq off, 3)) (ht : (pc : Int) + off = (tgt : Int))
    (kt : a = 0 → W p l e R s m args below meth c H locs cells slots Q (F0 m tgt ls rest)) (kf : ¬ a = 0 → W p l e R s m args below meth c H locs cells slots Q (F0 m (pc + 3) ls rest)) : W p l e R s m args below meth c H locs cells slots Q (F0 m pc ls (.int (nI a) :: rest)) :=
  lv_if_eq hx hb hdg ht (fun h => kt ((nI_eq ha (by decide : 0 < 2 ^ 31)).mp (h.trans nI_0.symm))) (fun h => kf (fun q => h (by rw [q, nI_0])))
theorem zn_if_ne (hx : p.tables.exec = Jvm.exec) (hb : c.code = cc) {a : Nat} {off : Int} {tgt : Nat} (ha : a < 2 ^ 31) (hdg : decode cc pc = .ok (.ifCond .ne off, 3)) (ht : (pc : Int) + off = (tgt : Int))
    (kt : ¬ a = 0 → W p l e R s m args below meth c H locs cells slots Q (F0 m tgt ls rest)) (kf : a = 0 → W p l e R s m args below meth c H locs cells slots Q (F0 m (pc + 3) ls rest)) : W p l e R s m args below meth c H locs cells slots Q (F0 m pc ls (.int (nI a) :: rest)) :=
  lv_if_ne hx hb hdg ht (fun h => kt (fun q => h (by rw [q, nI_0]))) (fun h => kf ((nI_eq ha (by decide : 0 < 2 ^ 31)).mp (h.trans nI_0.symm)))
theorem zn_if_lt (hx : p.tables.exec = Jvm.exec) (hb : c.code = cc) {a : Nat} {off : Int} {tgt : Nat} (ha : a < 2 ^ 31) (hdg : decode cc pc = .ok (.ifCond .lt off, 3)) (ht : (pc : Int) + off = (tgt : Int))
    (kf : W p l e R s m args below meth c H locs cells slots Q (F0 m (pc + 3) ls rest)) : W p l e R s m args below meth c H locs cells slots Q (F0 m pc ls (.int (nI a) :: rest)) :=
  lv_if_lt hx hb hdg ht (fun h => absurd h (nI_pos ha)) (fun _ => kf)
theorem zn_if_ge (hx : p.tables.exec = Jvm.exec) (hb : c.code = cc) {a : Nat} {off : Int} {tgt : Nat} (ha : a < 2 ^ 31) (hdg : decode cc pc = .ok (.ifCond .ge off, 3)) (ht : (pc : Int) + off = (tgt : Int))
    (kt : W p l e R s m args below meth c H locs cells slots Q (F0 m tgt ls rest)) : W p l e R s m args below meth c H locs cells slots Q (F0 m pc ls (.int (nI a) :: rest)) :=
  lv_if_ge hx hb hdg ht (fun _ => kt) (fun h => absurd (nI_pos' ha) h)
theorem zn_if_gt (hx : p.tables.exec = Jvm.exec) (hb : c.code = cc) {a : Nat} {off : Int} {tgt : Nat} (ha : a < 2 ^ 31) (hdg : decode cc pc = .ok (.ifCond .gt off, 3)) (ht : (pc : Int) + off = (tgt : Int))
    (kt : 0 < a → W p l e R s m args below meth c H locs cells slots Q (F0 m tgt ls rest)) (kf : ¬ 0 < a → W p l e R s m args below meth c H locs cells slots Q (F0 m (pc + 3) ls rest)) : W p l e R s m args below meth c H locs cells slots Q (F0 m pc ls (.int (nI a) :: rest)) :=
  lv_if_gt hx hb hdg ht (fun h => kt ((nI_ltI (by decide : 0 < 2 ^ 31) ha).mp (by rw [nI_0]; exact h))) (fun h => kf (fun q => h (by have := (nI_ltI (by decide : 0 < 2 ^ 31) ha).mpr q; rw [nI_0] at this; exact this)))
theorem zn_if_le (hx : p.tables.exec = Jvm.exec) (hb : c.code = cc) {a : Nat} {off : Int} {tgt : Nat} (ha : a < 2 ^ 31) (hdg : decode cc pc = .ok (.ifCond .le off, 3)) (ht : (pc : Int) + off = (tgt : Int))
    (kt : a = 0 → W p l e R s m args below meth c H locs cells slots Q (F0 m tgt ls rest)) (kf : ¬ a = 0 → W p l e R s m args below meth c H locs cells slots Q (F0 m (pc + 3) ls rest)) : W p l e R s m args below meth c H locs cells slots Q (F0 m pc ls (.int (nI a) :: rest)) :=
  lv_if_le hx hb hdg ht (fun h => kt (by rcases Nat.eq_zero_or_pos a with q | q; exact q; exact absurd h (nI_nle q ha))) (fun h => kf (fun q => h (by rw [q, nI_0]; exact Int32.le_refl 0)))
/-! ===== fields and arrays ===== -/
theorem z_get (hx : p.tables.exec = Jvm.exec) (hb : c.code = cc) {a : Nat} {own ref C : String} {T : u_T} {N ci index : Nat} {Ts : List Cond} (hts : ∀ w ∈ Ts, w.before args s = true) (hin : ∀ w ∈ u_ws C T N, w ∈ Ts) (hown : s.vm.findClass own = some m.cls) (X : zX Z s A) (h : zW Z s A ws H locs) (q0 : Nat) {fs : List Value} (he : ws[q0]? = some (a, .inr (ci, fs))) (hc : vwCl[ci]? = some (C, T, N)) (k : Nat) (hk : k < N) (hlink : (Cond.fieldLink own index ref (T k).2.1 (T k).2.2.1) ∈ Ts) (hsame : ∀ x, s.fieldFound? (T k).1 (T k).2.1 (T k).2.2.1 = some x → s.fieldFound? ref (T k).2.1 (T k).2.2.1 = some x) {v : Value} (hv : fs[k]? = some v) (hdg : decode cc pc = .ok (.getfield index, 3))
    (kk : W p l e R s m args below meth c H locs cells slots Q (F0 m (pc + 3) ls (v :: rest))) : W p l e R s m args below meth c H locs cells slots Q (F0 m pc ls (.ref a :: rest)) :=
  va_get hx hb hts hin hown X.1.1 h.1 q0 he hc k hk (hts _ hlink) hsame hv hdg kk
theorem z_put (hx : p.tables.exec = Jvm.exec) (hb : c.code = cc) {a : Nat} {own ref C : String} {T : u_T} {N ci index : Nat} {Ts : List Cond} (hts : ∀ w ∈ Ts, w.before args s = true) (hin : ∀ w ∈ u_ws C T N, w ∈ Ts) (ty0 : Nat → FieldType) (hty : ∀ k, k < N → parseFieldDescriptor (T k).2.2.1 = some (ty0 k)) (hnm : ∀ a, a < N → ∀ b, b < N → a ≠ b → (T a).2.1 ≠ (T b).2.1) (hown : s.vm.findClass own = some m.cls) (X : zX Z s A) (h : zW Z s A ws H locs) (q0 : Nat) {fs : List Value} (he : ws[q0]? = some (a, .inr (ci, fs))) (hc : vwCl[ci]? = some (C, T, N)) (k : Nat) (hk : k < N) (hlink : (Cond.fieldLink own index ref (T k).2.1 (T k).2.2.1) ∈ Ts) (hsame : ∀ x, s.fieldFound? (T k).1 (T k).2.1 (T k).2.2.1 = some x → s.fieldFound? ref (T k).2.1 (T k).2.2.1 = some x) (hfin : (T k).2.2.2 = false) {ty : FieldType} {v : Value} (hd : parseFieldDescriptor (T k).2.2.1 = some ty) (hn : narrow ty v = v) (hfit : fits ty v = true) (hl : k < fs.length)
    (hdg : decode cc pc = .ok (.putfield index, 3)) (kk : ∀ (H1 : Heap) (locs1 : List Loc), zW Z s A (ws.set q0 (a, .inr (ci, fs.set k v))) H1 locs1 → W p l e R s m args below meth c H1 locs1 cells slots Q (F0 m (pc + 3) ls rest)) : W p l e R s m args below meth c H locs cells slots Q (F0 m pc ls (v :: .ref a :: rest)) :=
  va_put hx hb hts hin ty0 hty hnm hown X.1.1 h.1 h.2.1 h.2.2 q0 he hc k hk (hts _ hlink) hsame hfin hd hn hfit hl hdg (fun H1 locs1 g1 g2 g3 => kk H1 locs1 ⟨g1, g2, g3⟩)
theorem z_putF (hx : p.tables.exec = Jvm.exec) (hb : c.code = cc) {a : Nat} {own ref C : String} {T : u_T} {N ci index : Nat} {Ts : List Cond} (hts : ∀ w ∈ Ts, w.before args s = true) (hin : ∀ w ∈ u_ws C T N, w ∈ Ts) (ty0 : Nat → FieldType) (hty : ∀ k, k < N → parseFieldDescriptor (T k).2.2.1 = some (ty0 k)) (hnm : ∀ a, a < N → ∀ b, b < N → a ≠ b → (T a).2.1 ≠ (T b).2.1) (hown : s.vm.findClass own = some m.cls) (X : zX Z s A) (h : zW Z s A ws H locs) (q0 : Nat) {fs : List Value} (he : ws[q0]? = some (a, .inr (ci, fs))) (hc : vwCl[ci]? = some (C, T, N)) (k : Nat) (hk : k < N) (hlink : (Cond.fieldLink own index ref (T k).2.1 (T k).2.2.1) ∈ Ts) (hsame : ∀ x, s.fieldFound? (T k).1 (T k).2.1 (T k).2.2.1 = some x → s.fieldFound? ref (T k).2.1 (T k).2.2.1 = some x) (hfin : (T k).2.2.2 = true) (hin2 : meth.name = "<init>") (hdecl : (T k).1 = own) {ty : FieldType} {v : Value} (hd : parseFieldDescriptor (T k).2.2.1 = some ty) (hn : narrow ty v = v) (hfit : fits ty v = true) (hl : k < fs.length)
    (hdg : decode cc pc = .ok (.putfield index, 3)) (kk : ∀ (H1 : Heap) (locs1 : List Loc), zW Z s A (ws.set q0 (a, .inr (ci, fs.set k v))) H1 locs1 → W p l e R s m args below meth c H1 locs1 cells slots Q (F0 m (pc + 3) ls rest)) : W p l e R s m args below meth c H locs cells slots Q (F0 m pc ls (v :: .ref a :: rest)) :=
  va_putF hx hb hts hin ty0 hty hnm hown X.1.1 h.1 h.2.1 h.2.2 q0 he hc k hk (hts _ hlink) hsame hfin hin2 hdecl hd hn hfit hl hdg (fun H1 locs1 g1 g2 g3 => kk H1 locs1 ⟨g1, g2, g3⟩)
/-- a private field of a nest mate -/
theorem z_getN (hx : p.tables.exec = Jvm.exec) (hb : c.code = cc) {a : Nat} {own ref C host : String} {T : u_T} {N ci index : Nat} {Ts : List Cond} (hts : ∀ w ∈ Ts, w.before args s = true) (hin : ∀ w ∈ u_ws C T N, w ∈ Ts) (hown : s.vm.findClass own = some m.cls) (X : zX Z s A) (h : zW Z s A ws H locs) (q0 : Nat) {fs : List Value} (he : ws[q0]? = some (a, .inr (ci, fs))) (hc : vwCl[ci]? = some (C, T, N)) (k : Nat) (hk : k < N) (hlink : (Cond.fieldLinkNest own index ref (T k).2.1 (T k).2.2.1 host) ∈ zNs) (hsame : ∀ x, s.fieldFound? (T k).1 (T k).2.1 (T k).2.2.1 = some x → s.fieldFound? ref (T k).2.1 (T k).2.2.1 = some x) {v : Value} (hv : fs[k]? = some v) (hdg : decode cc pc = .ok (.getfield index, 3))
    (kk : W p l e R s m args below meth c H locs cells slots Q (F0 m (pc + 3) ls (v :: rest))) : W p l e R s m args below meth c H locs cells slots Q (F0 m pc ls (.ref a :: rest)) :=
  va_getN hx hb hts hin hown X.1.1 h.1 q0 he hc k hk (va_Nw.use rfl (X.1.2.1 _ hlink)) hsame hv hdg kk
theorem z_putN (hx : p.tables.exec = Jvm.exec) (hb : c.code = cc) {a : Nat} {own ref C host : String} {T : u_T} {N ci index : Nat} {Ts : List Cond} (hts : ∀ w ∈ Ts, w.before args s = true) (hin : ∀ w ∈ u_ws C T N, w ∈ Ts) (ty0 : Nat → FieldType) (hty : ∀ k, k < N → parseFieldDescriptor (T k).2.2.1 = some (ty0 k)) (hnm : ∀ a, a < N → ∀ b, b < N → a ≠ b → (T a).2.1 ≠ (T b).2.1) (hown : s.vm.findClass own = some m.cls) (X : zX Z s A) (h : zW Z s A ws H locs) (q0 : Nat) {fs : List Value} (he : ws[q0]? = some (a, .inr (ci, fs))) (hc : vwCl[ci]? = some (C, T, N)) (k : Nat) (hk : k < N) (hlink : (Cond.fieldLinkNest own index ref (T k).2.1 (T k).2.2.1 host) ∈ zNs) (hsame : ∀ x, s.fieldFound? (T k).1 (T k).2.1 (T k).2.2.1 = some x → s.fieldFound? ref (T k).2.1 (T k).2.2.1 = some x) (hfin : (T k).2.2.2 = false) {ty : FieldType} {v : Value} (hd : parseFieldDescriptor (T k).2.2.1 = some ty) (hn : narrow ty v = v) (hfit : fits ty v = true) (hl : k < fs.length)
    (hdg : decode cc pc = .ok (.putfield index, 3)) (kk : ∀ (H1 : Heap) (locs1 : List Loc), zW Z s A (ws.set q0 (a, .inr (ci, fs.set k v))) H1 locs1 → W p l e R s m args below meth c H1 locs1 cells slots Q (F0 m (pc + 3) ls rest)) : W p l e R s m args below meth c H locs cells slots Q (F0 m pc ls (v :: .ref a :: rest)) :=
  va_putN hx hb hts hin ty0 hty hnm hown X.1.1 h.1 h.2.1 h.2.2 q0 he hc k hk (va_Nw.use rfl (X.1.2.1 _ hlink)) hsame hfin hd hn hfit hl hdg (fun H1 locs1 g1 g2 g3 => kk H1 locs1 ⟨g1, g2, g3⟩)
theorem z_alen (hx : p.tables.exec = Jvm.exec) (hb : c.code = cc) {a : Nat} (X : zX Z s A) (h : zW Z s A ws H locs) (q0 : Nat) {n : Nat} {f : Nat → Int32} (ha : ws[q0]? = some (a, zI Z n f)) (hdg : decode cc pc = .ok (.arraylength, 1))
    (kk : W p l e R s m args below meth c H locs cells slots Q (F0 m (pc + 1) ls (.int (nI n) :: rest))) : W p l e R s m args below meth c H locs cells slots Q (F0 m pc ls (.ref a :: rest)) :=
  va_alen hx hb X.1.1 h.1 q0 0 (x := (n, .inl f)) ha (ty := .int) rfl rfl hdg kk
theorem z_alenq (hx : p.tables.exec = Jvm.exec) (hb : c.code = cc) {a : Nat} (X : zX Z s A) (h : zW Z s A ws H locs) (q0 : Nat) {n : Nat} {f : Nat → Option Nat} (ha : ws[q0]? = some (a, zQ Z n f)) (hdg : decode cc pc = .ok (.arraylength, 1))
    (kk : W p l e R s m args below meth c H locs cells slots Q (F0 m (pc + 1) ls (.int (nI n) :: rest))) : W p l e R s m args below meth c H locs cells slots Q (F0 m pc ls (.ref a :: rest)) :=
  va_alen hx hb X.1.1 h.1 q0 1 (x := (n, .inr (.inr (.inr (.inr f))))) ha (ty := .object RX0) rfl rfl hdg kk
theorem z_iald (hx : p.tables.exec = Jvm.exec) (hb : c.code = cc) {a : Nat} (X : zX Z s A) (h : zW Z s A ws H locs) (q0 : Nat) {n : Nat} {f : Nat → Int32} (ha : ws[q0]? = some (a, zI Z n f)) {k : Nat} (hn : n < 2 ^ 31) (hk : k < n) (hdg : decode cc pc = .ok (.iaload, 1))
    (kk : W p l e R s m args below meth c H locs cells slots Q (F0 m (pc + 1) ls (.int (f k) :: rest))) : W p l e R s m args below meth c H locs cells slots Q (F0 m pc ls (.int (nI k) :: .ref a :: rest)) := by
  refine va_iald hx hb X.1.1 h.1 q0 0 ha rfl (vp_in_nI hk hn) hdg ?_
  rw [nI_clamp (Nat.lt_trans hk hn)]
  exact kk
theorem z_iast (hx : p.tables.exec = Jvm.exec) (hb : c.code = cc) {a : Nat} (X : zX Z s A) (h : zW Z s A ws H locs) (q0 : Nat) {n : Nat} {f : Nat → Int32} (ha : ws[q0]? = some (a, zI Z n f)) {k : Nat} {x : Int32} (hn : n < 2 ^ 31) (hk : k < n) (hdg : decode cc pc = .ok (.iastore, 1))
    (kk : ∀ (H1 : Heap) (locs1 : List Loc), zW Z s A (ws.set q0 (a, zI Z n (upd f k x))) H1 locs1 → W p l e R s m args below meth c H1 locs1 cells slots Q (F0 m (pc + 1) ls rest)) : W p l e R s m args below meth c H locs cells slots Q (F0 m pc ls (.int x :: .int (nI k) :: .ref a :: rest)) := by
  refine va_iast hx hb X.1.1 h.1 h.2.1 h.2.2 q0 0 ha rfl (vp_in_nI hk hn) hdg (fun H1 locs1 g1 g2 g3 => ?_)
  rw [nI_clamp (Nat.lt_trans hk hn)] at g1 g2
  exact kk H1 locs1 ⟨g1, g2, g3⟩
theorem z_lald (hx : p.tables.exec = Jvm.exec) (hb : c.code = cc) {a : Nat} (X : zX Z s A) (h : zW Z s A ws H locs) (q0 : Nat) {n : Nat} {f : Nat → Int64} (ha : ws[q0]? = some (a, zL Z n f)) {k : Nat} (hn : n < 2 ^ 31) (hk : k < n) (hdg : decode cc pc = .ok (.laload, 1))
    (kk : W p l e R s m args below meth c H locs cells slots Q (F0 m (pc + 1) ls (.long (f k) :: rest))) : W p l e R s m args below meth c H locs cells slots Q (F0 m pc ls (.int (nI k) :: .ref a :: rest)) := by
  refine va_lald hx hb X.1.1 h.1 q0 2 ha rfl (vp_in_nI hk hn) hdg ?_
  rw [nI_clamp (Nat.lt_trans hk hn)]
  exact kk
theorem z_last (hx : p.tables.exec = Jvm.exec) (hb : c.code = cc) {a : Nat} (X : zX Z s A) (h : zW Z s A ws H locs) (q0 : Nat) {n : Nat} {f : Nat → Int64} (ha : ws[q0]? = some (a, zL Z n f)) {k : Nat} {x : Int64} (hn : n < 2 ^ 31) (hk : k < n) (hdg : decode cc pc = .ok (.lastore, 1))
    (kk : ∀ (H1 : Heap) (locs1 : List Loc), zW Z s A (ws.set q0 (a, zL Z n (vp_updL f k x))) H1 locs1 → W p l e R s m args below meth c H1 locs1 cells slots Q (F0 m (pc + 1) ls rest)) : W p l e R s m args below meth c H locs cells slots Q (F0 m pc ls (.long x :: .int (nI k) :: .ref a :: rest)) := by
  refine va_last hx hb X.1.1 h.1 h.2.1 h.2.2 q0 2 ha rfl (vp_in_nI hk hn) hdg (fun H1 locs1 g1 g2 g3 => ?_)
  rw [nI_clamp (Nat.lt_trans hk hn)] at g1 g2
  exact kk H1 locs1 ⟨g1, g2, g3⟩
theorem z_aldq (hx : p.tables.exec = Jvm.exec) (hb : c.code = cc) {a : Nat} (X : zX Z s A) (h : zW Z s A ws H locs) (q0 : Nat) {n : Nat} {f : Nat → Option Nat} (ha : ws[q0]? = some (a, zQ Z n f)) {k : Nat} (hn : n < 2 ^ 31) (hk : k < n) (hdg : decode cc pc = .ok (.aaload, 1))
    (kk : W p l e R s m args below meth c H locs cells slots Q (F0 m (pc + 1) ls (va_rf (f k) :: rest))) : W p l e R s m args below meth c H locs cells slots Q (F0 m pc ls (.int (nI k) :: .ref a :: rest)) := by
  refine va_aldq hx hb X.1.1 h.1 q0 1 ha rfl (vp_in_nI hk hn) hdg ?_
  rw [nI_clamp (Nat.lt_trans hk hn)]
  exact kk
theorem z_astq (hx : p.tables.exec = Jvm.exec) (hb : c.code = cc) {a : Nat} (X : zX Z s A) (h : zW Z s A ws H locs) (q0 qk : Nat) {n v : Nat} {f : Nat → Option Nat} {vs : List Value} (ha : ws[q0]? = some (a, zQ Z n f)) (hv : ws[qk]? = some (v, .inr (0, vs))) {k : Nat} (hn : n < 2 ^ 31) (hk : k < n) (hdg : decode cc pc = .ok (.aastore, 1))
    (kk : ∀ (H1 : Heap) (locs1 : List Loc), zW Z s A (ws.set q0 (a, zQ Z n (va_up f k (some v)))) H1 locs1 → W p l e R s m args below meth c H1 locs1 cells slots Q (F0 m (pc + 1) ls rest)) : W p l e R s m args below meth c H locs cells slots Q (F0 m pc ls (.ref v :: .int (nI k) :: .ref a :: rest)) := by
  refine va_astq hx hb X.1.1 h.1 h.2.1 h.2.2 q0 1 qk 0 (r := (RX0, TX0, 6)) ha rfl hv rfl (vp_in_nI hk hn) hdg (fun H1 locs1 g1 g2 g3 => ?_)
  rw [nI_clamp (Nat.lt_trans hk hn)] at g1 g2
  exact kk H1 locs1 ⟨g1, g2, g3⟩
/-! ===== new cells ===== -/
theorem z_new (hx : p.tables.exec = Jvm.exec) (hb : c.code = cc) {own C : String} {T : u_T} {N ci index : Nat} {Ts : List Cond} (hts : ∀ w ∈ Ts, w.before args s = true) (hin : ∀ w ∈ u_ws C T N, w ∈ Ts) (ty : Nat → FieldType) (hty : ∀ k, k < N → parseFieldDescriptor (T k).2.2.1 = some (ty k)) (hown : s.vm.findClass own = some m.cls) (hcl : Cond.classLink own index C ∈ Ts) (hinst : Cond.instantiable C N ∈ Ts) (hini : Cond.initialized C ∈ Ts)
    (X : zX Z s A) (h : zW Z s A ws H locs) (hc : vwCl[ci]? = some (C, T, N)) {fs : List Value} (hfs : ∀ j, j < N → defaultValue (ty j) = vp_V fs j) (hcells : cells + 1 ≤ R.cells) (hslots : slots + N ≤ R.slots) (hdg : decode cc pc = .ok (.new index, 3))
    (kk : ∀ (q : Nat) (H1 : Heap), zW Z s A (ws ++ [(q, .inr (ci, fs))]) H1 locs → W p l e R s m args below meth c H1 locs (cells + 1) (slots + N) Q (F0 m (pc + 3) ls (.ref q :: rest))) : W p l e R s m args below meth c H locs cells slots Q (F0 m pc ls rest) :=
  va_new hx hb hts hin ty hty hown (hts _ hcl) (hts _ hinst) (hts _ hini) X.1.1 h.1 h.2.1 h.2.2 X.2.2.2.1 hc hfs hcells hslots hdg (fun q H1 g1 g2 g3 => kk q H1 ⟨g1, g2, g3⟩)
theorem z_newa (hx : p.tables.exec = Jvm.exec) (hb : c.code = cc) {Ts : List Cond} (hts : ∀ w ∈ Ts, w.before args s = true) (harr : Cond.arrayClass .int ∈ Ts) (X : zX Z s A) (h : zW Z s A ws H locs) {n : Nat} (hn : n < 100000) (hcells : cells + 1 ≤ R.cells) (hslots : slots + n ≤ R.slots) (hdg : decode cc pc = .ok (.newarray .int, 2))
    (kk : ∀ (q : Nat) (H1 : Heap), zW Z s A (ws ++ [(q, zI Z n (fun _ => 0))]) H1 locs → W p l e R s m args below meth c H1 locs (cells + 1) (slots + n) Q (F0 m (pc + 2) ls (.ref q :: rest))) : W p l e R s m args below meth c H locs cells slots Q (F0 m pc ls (.int (nI n) :: rest)) := by
  refine va_newa (atype := .int) (ty := .int) hx hb (hts _ harr) rfl X.1.1 h.1 h.2.1 h.2.2 X.2.2.2.1 (N' := n) (a0 := (n, .inl (fun _ => 0))) (fun _ => rfl) (nI_pos (by omega)) (nI_clamp (by omega)) (by show n * 4 ≤ _; omega) hcells hslots hdg (fun q cA H1 gK g1 g2 g3 => ?_)
  have e1 := (gK.2 3 (cA, .int) rfl).2
  have e2 := (X.1.1.2 0 (Z.2.1, .int) rfl).2
  have e3 : cA = Z.2.1 := Option.some.inj ((show _ = some cA from e1).symm.trans e2)
  subst e3
  exact kk q H1 ⟨g1, g2, g3⟩
theorem z_newq (hx : p.tables.exec = Jvm.exec) (hb : c.code = cc) {own : String} {index : Nat} {Ts : List Cond} (hts : ∀ w ∈ Ts, w.before args s = true) (hown : s.vm.findClass own = some m.cls) (hcl : Cond.classLink own index RX0 ∈ Ts) (X : zX Z s A) (h : zW Z s A ws H locs) {n : Nat} (hn : n < 100000) (hcells : cells + 1 ≤ R.cells) (hslots : slots + n ≤ R.slots) (hdg : decode cc pc = .ok (.anewarray index, 3))
    (kk : ∀ (q : Nat) (H1 : Heap), zW Z s A (ws ++ [(q, zQ Z n (fun _ => none))]) H1 locs → W p l e R s m args below meth c H1 locs (cells + 1) (slots + n) Q (F0 m (pc + 3) ls (.ref q :: rest))) : W p l e R s m args below meth c H locs cells slots Q (F0 m pc ls (.int (nI n) :: rest)) := by
  refine va_newq hx hb hown (hts _ hcl) X.1.2.2.2.2 X.1.1 h.1 h.2.1 h.2.2 X.2.2.2.1 (N' := n) (nI_pos (by omega)) (nI_clamp (by omega)) (by omega) hcells hslots hdg (fun q cA H1 gK g1 g2 g3 => ?_)
  obtain ⟨kA, comp, a1, a2, a3, e1⟩ := (gK.2 3 (cA, .object RX0) rfl).2
  obtain ⟨kB, comp', b1, b2, b3, e2⟩ := (X.1.1.2 1 (Z.2.2.1, .object RX0) rfl).2
  have e3 : cA = Z.2.2.1 := Option.some.inj (e1.symm.trans e2)
  subst e3
  exact kk q H1 ⟨g1, g2, g3⟩
/-! ===== ends ===== -/
theorem z_iret {S : Type} {post : Int32 → S → Prop} {W' : S → va_W} {v : Int32} {mc ms : Nat} (hx : p.tables.exec = Jvm.exec) (hb : c.code = cc) (hr : meth.sig.returnType = some .int) (hlocks : meth.locks = false) (h : zW Z s A ws H locs) (u : S) (hp : post v u) (hw : ws = W' u) (hc : cells ≤ mc) (hs : slots ≤ ms) (hdg : decode cc pc = .ok (.ireturn, 1)) :
    W p l e R s m args below meth c H locs cells slots (MQ below (zQi Z post W' A) args s mc ms A) (F0 m pc ls [.int v]) := by
  subst hw
  refine W.widen hc hs ?_
  exact W.iret hx hb hr (fun t ht hW => ⟨⟨v, u, rfl, hp, by rw [ht]; exact h.1, h.2.1⟩, h.2.2.F ht⟩) h.2.2.2.2 hdg hlocks
theorem z_zret {S : Type} {post : Int32 → S → Prop} {W' : S → va_W} {v : Int32} {mc ms : Nat} (hx : p.tables.exec = Jvm.exec) (hb : c.code = cc) (hr : meth.sig.returnType = some .boolean) (hlocks : meth.locks = false) (hv : narrow .boolean (.int v) = .int v) (h : zW Z s A ws H locs) (u : S) (hp : post v u) (hw : ws = W' u) (hc : cells ≤ mc) (hs : slots ≤ ms) (hdg : decode cc pc = .ok (.ireturn, 1)) :
    W p l e R s m args below meth c H locs cells slots (MQ below (zQi Z post W' A) args s mc ms A) (F0 m pc ls [.int v]) := by
  subst hw
  refine W.widen hc hs ?_
  exact W.zret hx hb hr hv (fun t ht hW => ⟨⟨v, u, rfl, hp, by rw [ht]; exact h.1, h.2.1⟩, h.2.2.F ht⟩) h.2.2.2.2 hdg hlocks
theorem z_vret {S : Type} {post : S → Prop} {W' : S → va_W} {mc ms : Nat} (hx : p.tables.exec = Jvm.exec) (hb : c.code = cc) (hr : meth.sig.returnType = none) (hlocks : meth.locks = false) (h : zW Z s A ws H locs) (u : S) (hp : post u) (hw : ws = W' u) (hc : cells ≤ mc) (hs : slots ≤ ms) (hdg : decode cc pc = .ok (.return_, 1)) :
    W p l e R s m args below meth c H locs cells slots (MQ below (zQv Z post W' A) args s mc ms A) (F0 m pc ls []) := by
  subst hw
  refine W.widen hc hs ?_
  exact W.vret hx hb hr (fun t ht hW => ⟨⟨u, rfl, hp, by rw [ht]; exact h.1, h.2.1⟩, h.2.2.F ht⟩) h.2.2.2.2 hdg hlocks
theorem z_lret {S : Type} {post : Int64 → S → Prop} {W' : S → va_W} {v : Int64} {mc ms : Nat} (hx : p.tables.exec = Jvm.exec) (hb : c.code = cc) (hr : meth.sig.returnType = some .long) (hlocks : meth.locks = false) (h : zW Z s A ws H locs) (u : S) (hp : post v u) (hw : ws = W' u) (hc : cells ≤ mc) (hs : slots ≤ ms) (hdg : decode cc pc = .ok (.lreturn, 1)) :
    W p l e R s m args below meth c H locs cells slots (MQ below (zQl Z post W' A) args s mc ms A) (F0 m pc ls [.long v]) := by
  subst hw
  refine W.widen hc hs ?_
  exact W.lret hx hb hr (fun t ht hW => ⟨⟨v, u, rfl, hp, by rw [ht]; exact h.1, h.2.1⟩, h.2.2.F ht⟩) h.2.2.2.2 hdg hlocks
theorem z_dret {S : Type} {post : UInt64 → S → Prop} {W' : S → va_W} {v : UInt64} {mc ms : Nat} (hx : p.tables.exec = Jvm.exec) (hb : c.code = cc) (hr : meth.sig.returnType = some .double) (hlocks : meth.locks = false) (h : zW Z s A ws H locs) (u : S) (hp : post v u) (hw : ws = W' u) (hc : cells ≤ mc) (hs : slots ≤ ms) (hdg : decode cc pc = .ok (.dreturn, 1)) :
    W p l e R s m args below meth c H locs cells slots (MQ below (zQd Z post W' A) args s mc ms A) (F0 m pc ls [.double v]) := by
  subst hw
  refine W.widen hc hs ?_
  exact W.dret hx hb hr (fun t ht hW => ⟨⟨v, u, rfl, hp, by rw [ht]; exact h.1, h.2.1⟩, h.2.2.F ht⟩) h.2.2.2.2 hdg hlocks
theorem z_aret {S : Type} {post : S → Prop} {ra : S → Nat} {W' : S → va_W} {v : Nat} {rt : FieldType} {mc ms : Nat} (hx : p.tables.exec = Jvm.exec) (hb : c.code = cc) (hr : meth.sig.returnType = some rt) (hrt : (∃ n, rt = .object n) ∨ ∃ t, rt = .array t) (hlocks : meth.locks = false) (h : zW Z s A ws H locs) (u : S) (hp : post u) (hv : v = ra u) (hw : ws = W' u) (hc : cells ≤ mc) (hs : slots ≤ ms) (hdg : decode cc pc = .ok (.areturn, 1)) :
    W p l e R s m args below meth c H locs cells slots (MQ below (zQr Z post ra W' A) args s mc ms A) (F0 m pc ls [.ref v]) := by
  subst hw
  refine W.widen hc hs ?_
  exact W.aret hx hb hr hrt (Or.inr ⟨_, rfl⟩) (fun t ht hW => ⟨⟨u, v, rfl, hp, hv, by rw [ht]; exact h.1, h.2.1⟩, h.2.2.F ht⟩) h.2.2.2.2 hdg hlocks
/-- the world may be a part of what is there (cells that were made and are of no use any more) -/
theorem z_drop (h : zW Z s A ws H locs) {wc : va_W} (is : List Nat) (hC : is.map (fun i => ws[i]?) = wc.map some) (hn : va_nd is = true) : zW Z s A wc H locs := ⟨zPsub h.1 hC, h.2.1.sub is hn hC, h.2.2⟩
end ZR
end
section
section ZCL
variable {p : Program} {l : Launch} {e : Env} {R : Room} {s : State} {m : MethodId} {args : Array Value} {below : List Frame} {meth : Method} {c : Code} {H : Heap} {locs : List Loc} {cells slots : Nat} {Q : State → Prop}
variable {cc : ByteArray} {pc : Nat} {ls : Array Slot} {rest st0 : List Value} {Z : zT} {A : Nat → Prop} {ws wc : va_W} {a : Array Value} {mc ms : Nat}
/-! ===== what a call leaves ===== -/
theorem zafter {S : Type} {W' : S → va_W} {u : S} {t : State} {H1 : Heap} {locs1 : List Loc} (X : zX Z s A) (h : zW Z s A ws H locs) (is : List Nat) (hC : is.map (fun i => ws[i]?) = wc.map some) (hn : va_nd is = true) (hl : (W' u).length = is.length) (ht : t.heap = H1) (hB : zB Z (W' u) (va_A wc H.size) t) (hk : ∀ q : Nat, q < H.size → ¬ va_A wc H.size q → H1[q]? = H[q]?) (hS : va_S A s.heap H1 locs1) : zW Z s A (zput ws is (W' u)) H1 locs1 := by
  obtain ⟨hP1, hD1⟩ := hB
  rw [ht] at hP1
  have g := zjoin (wb := []) h.1 h.2.1 is hC hn hl hk (va_free h.2.1 h.2.2 X.2.2.2.1 is hC) (by rw [List.append_nil]; exact hP1) (by rw [List.append_nil]; exact hD1)
  rw [List.append_nil] at g
  exact ⟨g.1, g.2, hS⟩
theorem zafterN {S : Type} {W' : S → va_W} {wa wb : va_W} {u : S} {t : State} {H1 : Heap} {locs1 : List Loc} (X : zX Z s A) (h : zW Z s A ws H locs) (is : List Nat) (hC : is.map (fun i => ws[i]?) = wc.map some) (hn : va_nd is = true) (hw : W' u = wa ++ wb) (hl : wa.length = is.length) (ht : t.heap = H1) (hB : zB Z (W' u) (va_A wc H.size) t) (hk : ∀ q : Nat, q < H.size → ¬ va_A wc H.size q → H1[q]? = H[q]?) (hS : va_S A s.heap H1 locs1) : zW Z s A (zput ws is wa ++ wb) H1 locs1 := by
  obtain ⟨hP1, hD1⟩ := hB
  rw [ht] at hP1
  rw [hw] at hP1 hD1
  have g := zjoin h.1 h.2.1 is hC hn hl hk (va_free h.2.1 h.2.2 X.2.2.2.1 is hC) hP1 hD1
  exact ⟨g.1, g.2, hS⟩
theorem zc_i {S : Type} {post : Int32 → S → Prop} {W' : S → va_W} (hr : va_Run p l e R s m args below meth c H locs cells slots mc ms (F0 m pc ls st0) rest (zQi Z post W' (va_A wc H.size) a) (va_A wc H.size)) (X : zX Z s A) (h : zW Z s A ws H locs) (is : List Nat) (hC : is.map (fun i => ws[i]?) = wc.map some) (hn : va_nd is = true) (hl : ∀ u, (W' u).length = is.length)
    (kk : ∀ (r : Int32) (u : S) (H1 : Heap) (locs1 : List Loc), post r u → zW Z s A (zput ws is (W' u)) H1 locs1 → W p l e R s m args below meth c H1 locs1 (cells + mc) (slots + ms) Q (F0 m (pc + 3) ls (.int r :: rest))) : W p l e R s m args below meth c H locs cells slots Q (F0 m pc ls st0) :=
  va_calli hr h.2.2 (fun q _ z => va_free h.2.1 h.2.2 X.2.2.2.1 is hC q z) (va_free h.2.1 h.2.2 X.2.2.2.1 is hC) (fun r u t H1 locs1 ht hvm hp hB hz hk hS => kk r u H1 locs1 hp (zafter X h is hC hn (hl u) ht hB hk hS))
theorem zc_l {S : Type} {post : Int64 → S → Prop} {W' : S → va_W} (hr : va_Run p l e R s m args below meth c H locs cells slots mc ms (F0 m pc ls st0) rest (zQl Z post W' (va_A wc H.size) a) (va_A wc H.size)) (X : zX Z s A) (h : zW Z s A ws H locs) (is : List Nat) (hC : is.map (fun i => ws[i]?) = wc.map some) (hn : va_nd is = true) (hl : ∀ u, (W' u).length = is.length)
    (kk : ∀ (r : Int64) (u : S) (H1 : Heap) (locs1 : List Loc), post r u → zW Z s A (zput ws is (W' u)) H1 locs1 → W p l e R s m args below meth c H1 locs1 (cells + mc) (slots + ms) Q (F0 m (pc + 3) ls (.long r :: rest))) : W p l e R s m args below meth c H locs cells slots Q (F0 m pc ls st0) :=
  va_calll hr h.2.2 (fun q _ z => va_free h.2.1 h.2.2 X.2.2.2.1 is hC q z) (va_free h.2.1 h.2.2 X.2.2.2.1 is hC) (fun r u t H1 locs1 ht hvm hp hB hz hk hS => kk r u H1 locs1 hp (zafter X h is hC hn (hl u) ht hB hk hS))
theorem zc_d {S : Type} {post : UInt64 → S → Prop} {W' : S → va_W} (hr : va_Run p l e R s m args below meth c H locs cells slots mc ms (F0 m pc ls st0) rest (zQd Z post W' (va_A wc H.size) a) (va_A wc H.size)) (X : zX Z s A) (h : zW Z s A ws H locs) (is : List Nat) (hC : is.map (fun i => ws[i]?) = wc.map some) (hn : va_nd is = true) (hl : ∀ u, (W' u).length = is.length)
    (kk : ∀ (r : UInt64) (u : S) (H1 : Heap) (locs1 : List Loc), post r u → zW Z s A (zput ws is (W' u)) H1 locs1 → W p l e R s m args below meth c H1 locs1 (cells + mc) (slots + ms) Q (F0 m (pc + 3) ls (.double r :: rest))) : W p l e R s m args below meth c H locs cells slots Q (F0 m pc ls st0) :=
  va_calld hr h.2.2 (fun q _ z => va_free h.2.1 h.2.2 X.2.2.2.1 is hC q z) (va_free h.2.1 h.2.2 X.2.2.2.1 is hC) (fun r u t H1 locs1 ht hvm hp hB hz hk hS => kk r u H1 locs1 hp (zafter X h is hC hn (hl u) ht hB hk hS))
theorem zc_v {S : Type} {post : S → Prop} {W' : S → va_W} (hr : va_Run p l e R s m args below meth c H locs cells slots mc ms (F0 m pc ls st0) rest (zQv Z post W' (va_A wc H.size) a) (va_A wc H.size)) (X : zX Z s A) (h : zW Z s A ws H locs) (is : List Nat) (hC : is.map (fun i => ws[i]?) = wc.map some) (hn : va_nd is = true) (hl : ∀ u, (W' u).length = is.length)
    (kk : ∀ (u : S) (H1 : Heap) (locs1 : List Loc), post u → zW Z s A (zput ws is (W' u)) H1 locs1 → W p l e R s m args below meth c H1 locs1 (cells + mc) (slots + ms) Q (F0 m (pc + 3) ls rest)) : W p l e R s m args below meth c H locs cells slots Q (F0 m pc ls st0) :=
  va_callv hr h.2.2 (fun q _ z => va_free h.2.1 h.2.2 X.2.2.2.1 is hC q z) (va_free h.2.1 h.2.2 X.2.2.2.1 is hC) (fun u t H1 locs1 ht hvm hp hB hz hk hS => kk u H1 locs1 hp (zafter X h is hC hn (hl u) ht hB hk hS))
/-- a callee that makes cells: they come behind the world -/
theorem zc_vN {S : Type} {post : S → Prop} {W' wa wb : S → va_W} (hr : va_Run p l e R s m args below meth c H locs cells slots mc ms (F0 m pc ls st0) rest (zQv Z post W' (va_A wc H.size) a) (va_A wc H.size)) (X : zX Z s A) (h : zW Z s A ws H locs) (is : List Nat) (hC : is.map (fun i => ws[i]?) = wc.map some) (hn : va_nd is = true) (hw : ∀ u, W' u = wa u ++ wb u) (hl : ∀ u, (wa u).length = is.length)
    (kk : ∀ (u : S) (H1 : Heap) (locs1 : List Loc), post u → zW Z s A (zput ws is (wa u) ++ wb u) H1 locs1 → W p l e R s m args below meth c H1 locs1 (cells + mc) (slots + ms) Q (F0 m (pc + 3) ls rest)) : W p l e R s m args below meth c H locs cells slots Q (F0 m pc ls st0) :=
  va_callv hr h.2.2 (fun q _ z => va_free h.2.1 h.2.2 X.2.2.2.1 is hC q z) (va_free h.2.1 h.2.2 X.2.2.2.1 is hC) (fun u t H1 locs1 ht hvm hp hB hz hk hS => kk u H1 locs1 hp (zafterN X h is hC hn (hw u) (hl u) ht hB hk hS))
/-! ===== calls that may throw: what is thrown goes on to the caller ===== -/
variable {Qc : Array Value → State → Outcome → State → Prop}
theorem zthrown {SX S0 : Type} {px : Nat → SX → Prop} {WX : SX → va_W} {px0 : Nat → S0 → Prop} {WX0 : S0 → va_W} {mc0 ms0 : Nat} (X : zX Z s A) (h : zW Z s A ws H locs) (is : List Nat) (hC : is.map (fun i => ws[i]?) = wc.map some) (hn : va_nd is = true) (hno : ∀ x ∈ c.exceptionTable.toList, False) (hlocks : meth.locks = false) (hlx : ∀ u, (WX u).length = is.length) (kx : ∀ k u, px k u → ∃ u0, px0 k u0 ∧ zput ws is (WX u) = WX0 u0) (hcm : cells + mc ≤ mc0) (hsm : slots + ms ≤ ms0)
    (E : String) (ce : Cell) (q9 : Addr) (u : Nat × SX) (t : State) (H1 : Heap) (locs1 : List Loc) (ht : t.heap = H1) (hp : px u.1 u.2) (hB : E = zEx u.1 ∧ zB Z (WX u.2) (va_A wc H.size) t) (hk : ∀ q : Nat, q < H.size → ¬ va_A wc H.size q → H1[q]? = H[q]?) (hS : va_S A s.heap H1 locs1) (hce : H1[q9]? = some ce) (hcv : ce.vm = .none) (hcl : s.vm.findClass E = some ce.cls) :
    vx_W p l e R s m args below meth c H1 locs1 (cells + mc) (slots + ms) (vx_MQ below Qc (zXC Z px0 WX0 A) args s mc0 ms0 A) (F0 m pc ls rest) q9 := by
  obtain ⟨hE, hB⟩ := hB
  have hW1 := zafter X h is hC hn (hlx u.2) ht hB hk hS
  obtain ⟨u0, hp0, hw0⟩ := kx u.1 u.2 hp
  rw [hw0] at hW1
  refine vx_out (fun x hx => (hno x hx).elim) hlocks hce hcv hcl (fun t2 ht2 hvm => ⟨(u.1, u0), hp0, ⟨hE, by rw [ht2]; exact hW1.1, hW1.2.1⟩, hW1.2.2.F ht2⟩) hW1.2.2.2.2 hcm hsm
theorem zt_i {S SX S0 : Type} {post : Int32 → S → Prop} {W' : S → va_W} {px : Nat → SX → Prop} {WX : SX → va_W} {px0 : Nat → S0 → Prop} {WX0 : S0 → va_W} {mc0 ms0 : Nat} (hr : vx_Run p l e R s m args below meth c H locs cells slots mc ms (F0 m pc ls st0) rest (zQi Z post W' (va_A wc H.size) a) (zXC Z px WX (va_A wc H.size)) (va_A wc H.size)) (X : zX Z s A) (h : zW Z s A ws H locs) (is : List Nat) (hC : is.map (fun i => ws[i]?) = wc.map some) (hn : va_nd is = true) (hl : ∀ u, (W' u).length = is.length)
    (hno : ∀ x ∈ c.exceptionTable.toList, False) (hlocks : meth.locks = false) (hlx : ∀ u, (WX u).length = is.length) (kx : ∀ k u, px k u → ∃ u0, px0 k u0 ∧ zput ws is (WX u) = WX0 u0) (hcm : cells + mc ≤ mc0) (hsm : slots + ms ≤ ms0)
    (kk : ∀ (r : Int32) (u : S) (H1 : Heap) (locs1 : List Loc), post r u → zW Z s A (zput ws is (W' u)) H1 locs1 → W p l e R s m args below meth c H1 locs1 (cells + mc) (slots + ms) (vx_MQ below Qc (zXC Z px0 WX0 A) args s mc0 ms0 A) (F0 m (pc + 3) ls (.int r :: rest))) : W p l e R s m args below meth c H locs cells slots (vx_MQ below Qc (zXC Z px0 WX0 A) args s mc0 ms0 A) (F0 m pc ls st0) :=
  vx_calli hr h.2.2 (fun q _ z => va_free h.2.1 h.2.2 X.2.2.2.1 is hC q z) (va_free h.2.1 h.2.2 X.2.2.2.1 is hC) (fun q _ z => va_free h.2.1 h.2.2 X.2.2.2.1 is hC q z)
    (fun E ce q9 u t H1 locs1 ht hvm hp hB hz hk hS hce hcv hcl => zthrown X h is hC hn hno hlocks hlx kx hcm hsm E ce q9 u t H1 locs1 ht hp hB hk hS hce hcv hcl)
    (fun r u t H1 locs1 ht hvm hp hB hz hk hS => kk r u H1 locs1 hp (zafter X h is hC hn (hl u) ht hB hk hS))
theorem zt_v {S SX S0 : Type} {post : S → Prop} {W' : S → va_W} {px : Nat → SX → Prop} {WX : SX → va_W} {px0 : Nat → S0 → Prop} {WX0 : S0 → va_W} {mc0 ms0 : Nat} (hr : vx_Run p l e R s m args below meth c H locs cells slots mc ms (F0 m pc ls st0) rest (zQv Z post W' (va_A wc H.size) a) (zXC Z px WX (va_A wc H.size)) (va_A wc H.size)) (X : zX Z s A) (h : zW Z s A ws H locs) (is : List Nat) (hC : is.map (fun i => ws[i]?) = wc.map some) (hn : va_nd is = true) (hl : ∀ u, (W' u).length = is.length)
    (hno : ∀ x ∈ c.exceptionTable.toList, False) (hlocks : meth.locks = false) (hlx : ∀ u, (WX u).length = is.length) (kx : ∀ k u, px k u → ∃ u0, px0 k u0 ∧ zput ws is (WX u) = WX0 u0) (hcm : cells + mc ≤ mc0) (hsm : slots + ms ≤ ms0)
    (kk : ∀ (u : S) (H1 : Heap) (locs1 : List Loc), post u → zW Z s A (zput ws is (W' u)) H1 locs1 → W p l e R s m args below meth c H1 locs1 (cells + mc) (slots + ms) (vx_MQ below Qc (zXC Z px0 WX0 A) args s mc0 ms0 A) (F0 m (pc + 3) ls rest)) : W p l e R s m args below meth c H locs cells slots (vx_MQ below Qc (zXC Z px0 WX0 A) args s mc0 ms0 A) (F0 m pc ls st0) :=
  vx_callv hr h.2.2 (fun q _ z => va_free h.2.1 h.2.2 X.2.2.2.1 is hC q z) (va_free h.2.1 h.2.2 X.2.2.2.1 is hC) (fun q _ z => va_free h.2.1 h.2.2 X.2.2.2.1 is hC q z)
    (fun E ce q9 u t H1 locs1 ht hvm hp hB hz hk hS hce hcv hcl => zthrown X h is hC hn hno hlocks hlx kx hcm hsm E ce q9 u t H1 locs1 ht hp hB hk hS hce hcv hcl)
    (fun u t H1 locs1 ht hvm hp hB hz hk hS => kk u H1 locs1 hp (zafter X h is hC hn (hl u) ht hB hk hS))
/-- an answer that is one of the cells -/
theorem zt_r {S SX S0 : Type} {post : S → Prop} {ra : S → Nat} {W' : S → va_W} {px : Nat → SX → Prop} {WX : SX → va_W} {px0 : Nat → S0 → Prop} {WX0 : S0 → va_W} {mc0 ms0 : Nat} (hr : vx_Run p l e R s m args below meth c H locs cells slots mc ms (F0 m pc ls st0) rest (zQr Z post ra W' (va_A wc H.size) a) (zXC Z px WX (va_A wc H.size)) (va_A wc H.size)) (X : zX Z s A) (h : zW Z s A ws H locs) (is : List Nat) (hC : is.map (fun i => ws[i]?) = wc.map some) (hn : va_nd is = true) (hl : ∀ u, (W' u).length = is.length)
    (hno : ∀ x ∈ c.exceptionTable.toList, False) (hlocks : meth.locks = false) (hlx : ∀ u, (WX u).length = is.length) (kx : ∀ k u, px k u → ∃ u0, px0 k u0 ∧ zput ws is (WX u) = WX0 u0) (hcm : cells + mc ≤ mc0) (hsm : slots + ms ≤ ms0)
    (kk : ∀ (u : S) (H1 : Heap) (locs1 : List Loc), post u → zW Z s A (zput ws is (W' u)) H1 locs1 → W p l e R s m args below meth c H1 locs1 (cells + mc) (slots + ms) (vx_MQ below Qc (zXC Z px0 WX0 A) args s mc0 ms0 A) (F0 m (pc + 3) ls (.ref (ra u) :: rest))) : W p l e R s m args below meth c H locs cells slots (vx_MQ below Qc (zXC Z px0 WX0 A) args s mc0 ms0 A) (F0 m pc ls st0) := by
  intro T hT X9
  rcases hr T hT X9 with ⟨v, st₀, t, T', L, h0, X', hL, e1, e2, ⟨⟨u, ra9, hv, hp, hra, hB⟩, hF⟩, st⟩ | ⟨q, st₀, t, T', L, E, ce, h0, X', hL, e1, e2, ⟨u, hp, hB, hF⟩, hce, hcv, hcl, st⟩
  · cases hv
    subst hra
    obtain ⟨k1, k2, k3⟩ := vx_keep h0 e1 h.2.2 (fun q _ z => va_free h.2.1 h.2.2 X.2.2.2.1 is hC q z) (va_free h.2.1 h.2.2 X.2.2.2.1 is hC) hL hF
    obtain ⟨t2, a1, b1⟩ := kk u T'.heap (locs ++ L) hp (zafter X h is hC hn (hl u) e1.symm hB k2 k3) T' rfl X'
    exact ⟨t2, st t2 a1, b1⟩
  · obtain ⟨k1, k2, k3⟩ := vx_keep h0 e1 h.2.2 (fun q _ z => va_free h.2.1 h.2.2 X.2.2.2.1 is hC q z) (va_free h.2.1 h.2.2 X.2.2.2.1 is hC) hL hF
    obtain ⟨t2, a1, b1⟩ := zthrown (pc := pc) (ls := ls) (rest := rest) X h is hC hn hno hlocks hlx kx hcm hsm E ce q u t T'.heap (locs ++ L) e1.symm hp hB k2 k3 (by rw [e1]; exact hce) hcv hcl T' rfl X'
    exact ⟨t2, st.trans a1, b1⟩
/-- a call whose throws this method catches itself: kx is owed -/
theorem zh_i {S SX : Type} {post : Int32 → S → Prop} {W' : S → va_W} {px : Nat → SX → Prop} {WX : SX → va_W} (hr : vx_Run p l e R s m args below meth c H locs cells slots mc ms (F0 m pc ls st0) rest (zQi Z post W' (va_A wc H.size) a) (zXC Z px WX (va_A wc H.size)) (va_A wc H.size)) (X : zX Z s A) (h : zW Z s A ws H locs) (is : List Nat) (hC : is.map (fun i => ws[i]?) = wc.map some) (hn : va_nd is = true) (hl : ∀ u, (W' u).length = is.length) (hlx : ∀ u, (WX u).length = is.length)
    (kx : ∀ (ce : Cell) (q9 : Addr) (k : Nat) (u : SX) (H1 : Heap) (locs1 : List Loc), px k u → zW Z s A (zput ws is (WX u)) H1 locs1 → H1[q9]? = some ce → ce.vm = .none → s.vm.findClass (zEx k) = some ce.cls → vx_W p l e R s m args below meth c H1 locs1 (cells + mc) (slots + ms) Q (F0 m pc ls rest) q9)
    (kk : ∀ (r : Int32) (u : S) (H1 : Heap) (locs1 : List Loc), post r u → zW Z s A (zput ws is (W' u)) H1 locs1 → W p l e R s m args below meth c H1 locs1 (cells + mc) (slots + ms) Q (F0 m (pc + 3) ls (.int r :: rest))) : W p l e R s m args below meth c H locs cells slots Q (F0 m pc ls st0) :=
  vx_calli hr h.2.2 (fun q _ z => va_free h.2.1 h.2.2 X.2.2.2.1 is hC q z) (va_free h.2.1 h.2.2 X.2.2.2.1 is hC) (fun q _ z => va_free h.2.1 h.2.2 X.2.2.2.1 is hC q z)
    (fun E ce q9 u t H1 locs1 ht hvm hp hB hz hk hS hce hcv hcl => by
      obtain ⟨hE, hB⟩ := hB
      subst hE
      exact kx ce q9 u.1 u.2 H1 locs1 hp (zafter X h is hC hn (hlx u.2) ht hB hk hS) hce hcv hcl)
    (fun r u t H1 locs1 ht hvm hp hB hz hk hS => kk r u H1 locs1 hp (zafter X h is hC hn (hl u) ht hB hk hS))
/-! ===== 'throw new E("text")' ===== -/
theorem zhat {args : Array Value} {s : State} {Ts L : List Cond} (hts : ∀ w ∈ Ts, w.before args s = true) (h1 : ∀ w ∈ L.filter goodWord, w ∈ Ts) (h2 : ∀ w ∈ L.filter (fun w => !goodWord w), w ∈ zNs) (hN : zN s) : ∀ w ∈ L, w.before args s = true := by
  refine vx_hat (B := zNs) (fun w hw => hts w (h1 w hw)) h2 (fun w hw => ?_)
  refine va_Nw.use ?_ (hN w hw)
  simp only [zNs, List.mem_cons, List.not_mem_nil, or_false] at hw
  rcases hw with rfl | rfl | rfl | rfl | rfl | rfl | rfl | rfl | rfl | rfl | rfl | rfl | rfl | rfl | rfl | rfl | rfl | rfl <;> rfl
theorem z_throw {S0 : Type} {px0 : Nat → S0 → Prop} {WX0 : S0 → va_W} {nL mc0 ms0 : Nat} {Ts : List Cond} (hx : p.tables.exec = Jvm.exec) (hb : c.code = cc) (hfl : l.stackTraces = false) (C : CallFix p m c cc nL s args Ts RX4) (k : Nat) {ik is ic : Nat} {text : String}
    (hcls : Bundle.fit (zEx k) = true) (hk : Cond.classLink RX4 ik (zEx k) ∈ Ts) (hini : Cond.initialized (zEx k) ∈ Ts) (hat : ∀ w ∈ (vx_atS RX4 ic (zEx k) zEs).filter goodWord, w ∈ Ts) (hng : ∀ w ∈ (vx_atS RX4 ic (zEx k) zEs).filter (fun w => !goodWord w), w ∈ zNs)
    (hgood : ∀ w ∈ Cond.classLink RX4 ik (zEx k) :: Cond.initialized (zEx k) :: vx_atS RX4 ic (zEx k) zEs, vx_ot w = true) (hstr : (is, text) ∈ zStr) (X : zX Z s A) (h : zW Z s A ws H locs) (hls : ls.size = nL)
    (d0 : decode cc pc = .ok (.new ik, 3)) (d3 : decode cc (pc + 3) = .ok (.dup, 1)) (d4 : decode cc (pc + 4) = .ok (.ldc is, 2)) (d6 : decode cc (pc + 6) = .ok (.invokespecial ic, 3)) (d9 : decode cc (pc + 9) = .ok (.athrow, 1))
    (hno : ∀ x ∈ c.exceptionTable.toList, False) (hlocks : meth.locks = false) (hRf : 5 < R.frames) (hRl : (rest.map fun v => v.category).sum + 82 ≤ R.locals) (hRc : cells + 1 ≤ R.cells) (hRs : slots + 6 ≤ R.slots) (u : S0) (hp : px0 k u) (hw : ws = WX0 u) (hc : cells + 1 ≤ mc0) (hs : slots + 6 ≤ ms0) :
    W p l e R s m args below meth c H locs cells slots (vx_MQ below Qc (zXC Z px0 WX0 A) args s mc0 ms0 A) (F0 m pc ls rest) := by
  obtain ⟨-, -, hml, hown, hts⟩ := C
  subst hw
  obtain ⟨sa, hsa⟩ := X.1.2.2.1 _ hstr
  have hZ : ∀ {n d : String}, vx_Zq Bundle.tN n d (fun q => zb Z ≤ q) s s.heap → vx_Zq Bundle.tN n d A s s.heap := fun h9 => vx_Zq.narrow h9 X.2.2.1
  refine vx_throwS (cls := zEx k) (text := text) (names := zEs) (is := is) (ic := ic) (ik := ik) (sa := sa) (A := A) hx hb hfl hown hcls (by decide +kernel) (hts _ hk) (hts _ hini) hsa (zhat hts hat hng X.1.2.1) hgood (hZ X.2.1.1) (hZ X.2.1.2) h.2.2 (hls.trans hml.symm) d0 d3 d4 d6 d9 (fun x hx => (hno x hx).elim) (by show 2 + 3 < _; omega) (by show _ + (13 * (2 + 1) + 43) ≤ _; omega) hRc hRs hlocks (fun t hvm hz hk9 => ?_) h.2.2.2.2 hc hs
  refine ⟨(k, u), hp, ⟨rfl, h.1.kept (fun j q hq => hk9 q.1 (h.1 j q hq).lt), h.2.1⟩, Nat.le_trans h.2.2.1 hz, fun q h1 h2 => ?_⟩
  rw [hk9 q (Nat.lt_of_lt_of_le h1 h.2.2.1)]
  exact h.2.2.2.1 q h1 h2
end ZCL
theorem zng1 : ∀ w ∈ (vx_atS RX4 183 (zEx 1) zEs).filter (fun w => !goodWord w), w ∈ zNs := by decide +kernel
theorem zng2 : ∀ w ∈ (vx_atS RX4 75 (zEx 2) zEs).filter (fun w => !goodWord w), w ∈ zNs := by decide +kernel
theorem zng3 : ∀ w ∈ (vx_atS RX4 55 (zEx 3) zEs).filter (fun w => !goodWord w), w ∈ zNs := by decide +kernel
theorem zgd1 : ∀ w ∈ Cond.classLink RX4 179 (zEx 1) :: Cond.initialized (zEx 1) :: vx_atS RX4 183 (zEx 1) zEs, vx_ot w = true := by decide +kernel
theorem zgd2 : ∀ w ∈ Cond.classLink RX4 71 (zEx 2) :: Cond.initialized (zEx 2) :: vx_atS RX4 75 (zEx 2) zEs, vx_ot w = true := by decide +kernel
theorem zgd3 : ∀ w ∈ Cond.classLink RX4 51 (zEx 3) :: Cond.initialized (zEx 3) :: vx_atS RX4 55 (zEx 3) zEs, vx_ot w = true := by decide +kernel
theorem zfit1 : Bundle.fit (zEx 1) = true := by decide +kernel
theorem zfit2 : Bundle.fit (zEx 2) = true := by decide +kernel
theorem zfit3 : Bundle.fit (zEx 3) = true := by decide +kernel
end
section
theorem zinc1 (a : Nat) : nI a + Int32.ofInt 1 = nI (a + 1) := nI_1 a
theorem zinc4 (a : Nat) : nI a + Int32.ofInt 4 = nI (a + 4) := nI_add a 4
theorem zdec1 (a : Nat) : nI (a + 1) + Int32.ofInt (-1) = nI a := pk_m1 a
/-! ===== what the class's stores compute ===== -/
/-- ten numbers of a sign -/
def sg (f : Nat → Int32) (g : Nat) : Nat → Int32 := fun q9 => f (g * 10 + q9)
def wr (f : Nat → Int32) : Nat → Int32 := fun q9 => f q9 * nI (q9 % 10)
/-- the greatest wear among the first n numbers -/
def gw (f : Nat → Int32) : Nat → Int32
  | 0 => -1
  | n + 1 => if 0 < f n then (if gw f n < nI (n % 10) then nI (n % 10) else gw f n) else gw f n
theorem gw_t {f : Nat → Int32} {n : Nat} (h : 0 < f n) : (if gw f n < nI (n % 10) then nI (n % 10) else gw f n) = gw f (n + 1) := by rw [gw, if_pos h]
theorem gw_f {f : Nat → Int32} {n : Nat} (h : ¬ 0 < f n) : gw f n = gw f (n + 1) := by rw [gw, if_neg h]
def mn (x y : Int32) : Int32 := if y < x then y else x
/-- the metal of the first n numbers, those with the wear w or more -/
def mf (f : Nat → Int32) (w : Nat) : Nat → Int32
  | 0 => 0
  | n + 1 => if n % 10 < w then mf f w n else mf f w n + f n * (if n / 10 < 26 then nI 1 else nI 2)
theorem mf_skip (f : Nat → Int32) (w g : Nat) : ∀ j, j ≤ w → w ≤ 10 → mf f w (g * 10 + j) = mf f w (g * 10)
  | 0, _, _ => rfl
  | j + 1, h, h2 => by
    rw [show g * 10 + (j + 1) = (g * 10 + j) + 1 by omega, mf, if_pos (by omega), mf_skip f w g j (by omega) h2]
theorem mf_s1 {f : Nat → Int32} {w g j : Nat} (h1 : w ≤ j) (h2 : j < 10) (h3 : g < 26) : mf f w (g * 10 + j) + f (g * 10 + j) * nI 1 = mf f w (g * 10 + (j + 1)) := by
  rw [show g * 10 + (j + 1) = (g * 10 + j) + 1 by omega, mf, if_neg (by omega), if_pos (by omega)]
theorem mf_s2 {f : Nat → Int32} {w g j : Nat} (h1 : w ≤ j) (h2 : j < 10) (h3 : 26 ≤ g) : mf f w (g * 10 + j) + f (g * 10 + j) * nI 2 = mf f w (g * 10 + (j + 1)) := by
  rw [show g * 10 + (j + 1) = (g * 10 + j) + 1 by omega, mf, if_neg (by omega), if_neg (by omega)]
/-- how many of the first n numbers' sorts have the wear w or more -/
def cf (f : Nat → Int32) (w : Nat) : Nat → Int32
  | 0 => 0
  | n + 1 => if n % 10 < w then cf f w n else cf f w n + f n
theorem cf_skip (f : Nat → Int32) (w g : Nat) : ∀ j, j ≤ w → w ≤ 10 → cf f w (g * 10 + j) = cf f w (g * 10)
  | 0, _, _ => rfl
  | j + 1, h, h2 => by
    rw [show g * 10 + (j + 1) = (g * 10 + j) + 1 by omega, cf, if_pos (by omega), cf_skip f w g j (by omega) h2]
theorem cf_s {f : Nat → Int32} {w g j : Nat} (h1 : w ≤ j) (h2 : j < 10) : cf f w (g * 10 + j) + f (g * 10 + j) = cf f w (g * 10 + (j + 1)) := by
  rw [show g * 10 + (j + 1) = (g * 10 + j) + 1 by omega, cf, if_neg (by omega)]
/-- the numbers, those of the first n with the wear w or more at 0 -/
def df (f : Nat → Int32) (w n : Nat) : Nat → Int32 := fun k => if k < n ∧ ¬ k % 10 < w then 0 else f k
theorem df_0 (f : Nat → Int32) (w : Nat) : df f w 0 = f := by funext k; simp [df]
theorem df_skip (f : Nat → Int32) (w g : Nat) {j : Nat} (h : j ≤ w) (h2 : w ≤ 10) : df f w (g * 10 + j) = df f w (g * 10) := by
  funext k
  by_cases h3 : k < g * 10 ∧ ¬ k % 10 < w
  · simp only [df]; rw [if_pos h3, if_pos (by omega)]
  · simp only [df]; rw [if_neg h3, if_neg (by omega)]
theorem df_at {f : Nat → Int32} {w n : Nat} : df f w n n = f n := by simp [df]
theorem zaddneg (x : Int32) : x + -x = 0 := by rw [← Int32.sub_eq_add_neg]; exact Int32.sub_self x
theorem df_s {f : Nat → Int32} {w g j : Nat} (h1 : w ≤ j) (h2 : j < 10) (x : Int32) (hx : x = 0) : upd (df f w (g * 10 + j)) (g * 10 + j) x = df f w (g * 10 + (j + 1)) := by
  subst hx
  funext k
  by_cases hk : k = g * 10 + j
  · subst hk; simp [upd, df]; intro h; omega
  · simp only [upd, if_neg hk, df]
    by_cases h3 : k < g * 10 + j ∧ ¬ k % 10 < w
    · rw [if_pos h3, if_pos (by omega)]
    · rw [if_neg h3, if_neg (by omega)]
theorem zlig0 {g : Nat} (h : (if 26 ≤ g then (1 : Int32) else 0) = 0) : g < 26 := by
  rcases Nat.lt_or_ge g 26 with q | q
  · exact q
  · rw [if_pos q] at h; exact absurd h (by decide)
theorem zlig1 {g : Nat} (h : ¬ (if 26 ≤ g then (1 : Int32) else 0) = 0) : 26 ≤ g := by
  rcases Nat.lt_or_ge g 26 with q | q
  · rw [if_neg (by omega)] at h; exact absurd rfl h
  · exact q
/-- moving: what is wanting, the wear added, the two stores, when j places of the order o were visited -/
def mvT (g o : Nat) (s : Int32 × Int32 × (Nat → Int32) × (Nat → Int32)) : Int32 × Int32 × (Nat → Int32) × (Nat → Int32) :=
  (s.1 - mn s.1 (s.2.2.1 (g * 10 + o)), s.2.1 + mn s.1 (s.2.2.1 (g * 10 + o)) * nI o, upd s.2.2.1 (g * 10 + o) (s.2.2.1 (g * 10 + o) + -mn s.1 (s.2.2.1 (g * 10 + o))), upd s.2.2.2 (g * 10 + o) (s.2.2.2 (g * 10 + o) + mn s.1 (s.2.2.1 (g * 10 + o))))
def mvS (o : Nat → Nat) (g : Nat) (q : Int32) (f h : Nat → Int32) : Nat → Int32 × Int32 × (Nat → Int32) × (Nat → Int32)
  | 0 => (q, 0, f, h)
  | j + 1 => mvT g (o j) (mvS o g q f h j)
def oU : Nat → Nat := fun j => j
def oD : Nat → Nat := fun j => 9 - j
def w9 (j : Nat) : Int32 := if j < 10 then nI (9 - j) else -1
theorem w9_lt {j : Nat} (h : j < 10) : w9 j = nI (9 - j) := if_pos h
theorem w9_ge {j : Nat} (h : 10 ≤ j) : w9 j = -1 := if_neg (by omega)
theorem w9_s {j : Nat} (h : j < 10) : nI (9 - j) + Int32.ofInt (-1) = w9 (j + 1) := by
  rcases Nat.lt_or_ge j 9 with q | q
  · rw [w9_lt (by omega), show 9 - j = (9 - (j + 1)) + 1 by omega]; exact zdec1 _
  · obtain rfl : j = 9 := by omega
    decide
/-- wearing by m: what broke, and the store; of the sign g, j wears were visited from the greatest down -/
def wbT (g w : Nat) (s : Int32 × (Nat → Int32)) : Nat → Int32 := upd s.2 (g * 10 + w) (s.2 (g * 10 + w) + -s.2 (g * 10 + w))
def wbU (m g w : Nat) (s : Int32 × (Nat → Int32)) : Int32 × (Nat → Int32) :=
  if w + m < 10 then (s.1, upd (wbT g w s) (g * 10 + (w + m)) (wbT g w s (g * 10 + (w + m)) + s.2 (g * 10 + w))) else (s.1 + s.2 (g * 10 + w), wbT g w s)
theorem wbU_t {m g w : Nat} {s : Int32 × (Nat → Int32)} (h : w + m < 10) : wbU m g w s = (s.1, upd (wbT g w s) (g * 10 + (w + m)) (wbT g w s (g * 10 + (w + m)) + s.2 (g * 10 + w))) := if_pos h
theorem wbU_f {m g w : Nat} {s : Int32 × (Nat → Int32)} (h : ¬ w + m < 10) : wbU m g w s = (s.1 + s.2 (g * 10 + w), wbT g w s) := if_neg h
def wbI (m g : Nat) (s : Int32 × (Nat → Int32)) : Nat → Int32 × (Nat → Int32)
  | 0 => s
  | j + 1 => wbU m g (9 - j) (wbI m g s j)
theorem wbI_s (m g : Nat) (s : Int32 × (Nat → Int32)) (j : Nat) : wbI m g s (j + 1) = wbU m g (9 - j) (wbI m g s j) := rfl
def wbO (m : Nat) (f : Nat → Int32) : Nat → Int32 × (Nat → Int32)
  | 0 => (0, f)
  | g + 1 => wbI m g (wbO m f g) 10
theorem wbO_s (m : Nat) (f : Nat → Int32) (g : Nat) : wbO m f (g + 1) = wbI m g (wbO m f g) 10 := rfl
def dg (d : Int64) (f : Nat → Int32) : Nat → Int64
  | 0 => d
  | n + 1 => dg d f n * 31 + (f n).toInt64
end
section
theorem mw_X2_init_0 : Cond.methodLink RX2 3 objectInit ∈ wsX2_init := by decide +kernel
theorem mw_X2_init_1 : Cond.instanceMethod objectInit ∈ wsX2_init := by decide +kernel
theorem mw_X2_init_2 : Cond.code objectInit ⟨#[0xb1]⟩ 1 none ∈ wsX2_init := by decide +kernel
theorem mw_X2_init_3 : Cond.arrayClass .int ∈ wsX2_init := by decide +kernel
theorem mw_X2_init_4 : Cond.fieldLink RX2 9 "TypeFoundry$Sorts" "numbers" "[I" ∈ wsX2_init := by decide +kernel
theorem mw_X2_init_5 : ∀ w ∈ wsX20, w ∈ wsX2_init := by decide +kernel
abbrev wp_X2_init (Z : zT) (a : Nat) : Nat → va_W := fun (u : Nat) => match u with | q => [(a, .inr (2, [.ref q])), (q, zI Z 290 (fun _ => 0))]
abbrev po_X2_init (Z : zT) (a : Nat) : Nat → Prop := fun (u : Nat) => match u with | q => True
abbrev rm_X2_init : Room := { frames := 1, cells := 1, slots := 290, locals := 12 }
set_option maxHeartbeats 4000000 in
set_option maxRecDepth 100000 in
theorem c_X2_init (l : Launch) (Z : zT) (a : Nat)  : zMet l yX2_init wsX2_init rm_X2_init [.ref a] Z [(a, .inr (2, [.null]))] (zQv Z (po_X2_init Z a) (wp_X2_init Z a)) 1 290 := by
  refine zstart (cc := cX2_init) (maxL := 1) (ret := none) (by decide) rfl (Nat.le_of_ble_eq_true rfl) ?_
  intro p e s m below meth c ls A hx hb hr hC hlk hnm hX hW hl
  have hml := hC.2.2.1
  have hown : s.vm.findClass RX2 = some m.cls := hC.2.2.2.1
  have hts := hC.2.2.2.2
  have hl : lv_has ls 1 [(0, .ref a)] := hl
  refine lv_aload_n hx hb dX2_init_0 rfl (lv_at hl 0 rfl) ?_
  refine W.objInit hx hb hown (hts _ mw_X2_init_0) (hts _ mw_X2_init_1) (hts _ mw_X2_init_2) rfl (by rw [hml]; exact hl.1) rfl dX2_init_1 (Nat.le_of_ble_eq_true rfl) (Nat.le_of_ble_eq_true rfl) ?_
  refine W.eq (g2 := F0 m 4 ls []) rfl ?_
  refine lv_aload_n hx hb dX2_init_4 rfl (lv_at hl 0 rfl) ?_
  refine lv_sipush (v := nI 290) hx hb dX2_init_5 (by decide) ?_
  refine z_newa hx hb hts mw_X2_init_3 hX hW (n := 290) (by omega) (Nat.le_of_ble_eq_true rfl) (Nat.le_of_ble_eq_true rfl) dX2_init_8 (fun qa_1 H hW => ?_)
  have hW : zW Z s A [(a, .inr (2, [.null])), (qa_1, zI Z 290 (fun _ => 0))] _ _ := hW
  refine z_putF (C := RX2) (T := TX2) (N := 1) (v := .ref qa_1) (ty := .array .int) hx hb hts mw_X2_init_5 tyX2 tyX2_ok nmX2 hown hX hW 0 rfl rfl 0 (by decide) mw_X2_init_4 (fun _ h9 => h9) rfl hnm rfl (by decide +kernel) rfl rfl (Nat.le_of_ble_eq_true rfl) dX2_init_10 (fun H locs hW => ?_)
  have hW : zW Z s A [(a, .inr (2, [.ref qa_1])), (qa_1, zI Z 290 (fun _ => 0))] _ _ := hW
  exact z_vret hx hb hr hlk hW qa_1 (trivial) (rfl) (by omega) (by omega) dX2_init_13
end
section
abbrev wp_X4_isLigature (Z : zT) (g : Nat) : Unit → va_W := fun (u : Unit) => []
abbrev po_X4_isLigature (Z : zT) (g : Nat) : Int32 → Unit → Prop := fun (r : Int32) (u : Unit) => r = if 26 ≤ g then (1 : Int32) else 0
abbrev rm_X4_isLigature : Room := { frames := 0, cells := 0, slots := 0, locals := 0 }
set_option maxHeartbeats 4000000 in
set_option maxRecDepth 100000 in
theorem c_X4_isLigature (l : Launch) (Z : zT) (g : Nat) (hg : g < 29) : zMet l yX4_isLigature wsX4_isLigature rm_X4_isLigature [.int (nI g)] Z [] (zQi Z (po_X4_isLigature Z g) (wp_X4_isLigature Z g)) 0 0 := by
  refine zstart (cc := cX4_isLigature) (maxL := 1) (ret := (some .boolean)) (by decide) rfl (Nat.le_of_ble_eq_true rfl) ?_
  intro p e s m below meth c ls A hx hb hr hC hlk hnm hX hW hl
  have hml := hC.2.2.1
  have hown : s.vm.findClass RX4 = some m.cls := hC.2.2.2.1
  have hts := hC.2.2.2.2
  have hl : lv_has ls 1 [(0, .int (nI g))] := hl
  refine lv_iload_n hx hb dX4_isLigature_0 rfl (lv_at hl 0 rfl) ?_
  refine lv_bipush (v := nI 26) hx hb dX4_isLigature_1 (by decide) ?_
  refine zn_icmp_lt (tgt := 10) (a := g) (b := 26) hx hb (by omega) (by omega) dX4_isLigature_3 (by decide) (fun c_3 => ?_) (fun c_3 => ?_)
  · refine lv_iconst (v := nI 0) hx hb dX4_isLigature_10 (by decide) ?_
    exact z_zret hx hb hr hlk (rfl) hW () (by first | exact (if_neg (by omega)).symm | exact (if_pos (by omega)).symm) (rfl) (by omega) (by omega) dX4_isLigature_11
  · refine lv_iconst (v := nI 1) hx hb dX4_isLigature_6 (by decide) ?_
    refine lv_goto (tgt := 11) hx hb dX4_isLigature_7 (by decide) ?_
    exact z_zret hx hb hr hlk (rfl) hW () (by first | exact (if_neg (by omega)).symm | exact (if_pos (by omega)).symm) (rfl) (by omega) (by omega) dX4_isLigature_11
end
section
theorem mw_X2_at_0 : Cond.fieldLink RX2 9 "TypeFoundry$Sorts" "numbers" "[I" ∈ wsX2_at := by decide +kernel
theorem mw_X2_at_1 : ∀ w ∈ wsX20, w ∈ wsX2_at := by decide +kernel
abbrev wp_X2_at (Z : zT) (a b : Nat) (f : Nat → Int32) (g w : Nat) : Unit → va_W := fun (u : Unit) => [(a, .inr (2, [.ref b])), (b, zI Z 290 f)]
abbrev po_X2_at (Z : zT) (a b : Nat) (f : Nat → Int32) (g w : Nat) : Int32 → Unit → Prop := fun (r : Int32) (u : Unit) => r = f (g * 10 + w)
abbrev rm_X2_at : Room := { frames := 0, cells := 0, slots := 0, locals := 0 }
set_option maxHeartbeats 4000000 in
set_option maxRecDepth 100000 in
theorem c_X2_at (l : Launch) (Z : zT) (a b : Nat) (f : Nat → Int32) (g w : Nat) (hg : g < 29) (hw : w < 10) : zMet l yX2_at wsX2_at rm_X2_at [.ref a, .int (nI g), .int (nI w)] Z [(a, .inr (2, [.ref b])), (b, zI Z 290 f)] (zQi Z (po_X2_at Z a b f g w) (wp_X2_at Z a b f g w)) 0 0 := by
  refine zstart (cc := cX2_at) (maxL := 3) (ret := (some .int)) (by decide) rfl (Nat.le_of_ble_eq_true rfl) ?_
  intro p e s m below meth c ls A hx hb hr hC hlk hnm hX hW hl
  have hml := hC.2.2.1
  have hown : s.vm.findClass RX2 = some m.cls := hC.2.2.2.1
  have hts := hC.2.2.2.2
  have hl : lv_has ls 3 [(0, .ref a), (1, .int (nI g)), (2, .int (nI w))] := hl
  refine lv_iload_n hx hb dX2_at_0 rfl (lv_at hl 1 rfl) ?_
  refine zn_if_lt (tgt := 20) (a := g) hx hb (by omega) dX2_at_1 (by decide) ?_
  refine lv_iload_n hx hb dX2_at_4 rfl (lv_at hl 1 rfl) ?_
  refine lv_bipush (v := nI 29) hx hb dX2_at_5 (by decide) ?_
  refine zn_icmp_ge (tgt := 20) (a := g) (b := 29) hx hb (by omega) (by omega) dX2_at_7 (by decide) (fun c_7 => absurd c_7 (by omega)) (fun c_7 => ?_)
  refine lv_iload_n hx hb dX2_at_10 rfl (lv_at hl 2 rfl) ?_
  refine zn_if_lt (tgt := 20) (a := w) hx hb (by omega) dX2_at_11 (by decide) ?_
  refine lv_iload_n hx hb dX2_at_14 rfl (lv_at hl 2 rfl) ?_
  refine lv_bipush (v := nI 10) hx hb dX2_at_15 (by decide) ?_
  refine zn_icmp_lt (tgt := 22) (a := w) (b := 10) hx hb (by omega) (by omega) dX2_at_17 (by decide) (fun c_17 => ?_) (fun c_17 => absurd (by omega) c_17)
  refine lv_aload_n hx hb dX2_at_22 rfl (lv_at hl 0 rfl) ?_
  refine z_get (C := RX2) (T := TX2) (N := 1) hx hb hts mw_X2_at_1 hown hX hW 0 rfl rfl 0 (by decide) mw_X2_at_0 (fun _ h9 => h9) rfl dX2_at_23 ?_
  refine lv_iload_n hx hb dX2_at_26 rfl (lv_at hl 1 rfl) ?_
  refine lv_bipush (v := nI 10) hx hb dX2_at_27 (by decide) ?_
  refine lv_imul hx hb dX2_at_29 ?_
  refine zw_topi (pk_mul _ _) ?_
  refine lv_iload_n hx hb dX2_at_30 rfl (lv_at hl 2 rfl) ?_
  refine lv_iadd hx hb dX2_at_31 ?_
  refine zw_topi (nI_add _ _) ?_
  refine z_iald hx hb hX hW 1 rfl (k := ((g * 10) + w)) (by omega) (by omega) dX2_at_32 ?_
  exact z_iret hx hb hr hlk hW () (rfl) (rfl) (by omega) (by omega) dX2_at_33
end
section
theorem mw_X2_change_0 : Cond.fieldLink RX2 9 "TypeFoundry$Sorts" "numbers" "[I" ∈ wsX2_change := by decide +kernel
theorem mw_X2_change_1 : ∀ w ∈ wsX20, w ∈ wsX2_change := by decide +kernel
abbrev wp_X2_change (Z : zT) (a b : Nat) (f : Nat → Int32) (g w : Nat) (by1 : Int32) : Unit → va_W := fun (u : Unit) => [(a, .inr (2, [.ref b])), (b, zI Z 290 (upd f (g * 10 + w) (f (g * 10 + w) + by1)))]
abbrev po_X2_change (Z : zT) (a b : Nat) (f : Nat → Int32) (g w : Nat) (by1 : Int32) : Unit → Prop := fun (u : Unit) => True
abbrev rm_X2_change : Room := { frames := 0, cells := 0, slots := 0, locals := 0 }
set_option maxHeartbeats 4000000 in
set_option maxRecDepth 100000 in
theorem c_X2_change (l : Launch) (Z : zT) (a b : Nat) (f : Nat → Int32) (g w : Nat) (by1 : Int32) (hg : g < 29) (hw : w < 10) : zMet l yX2_change wsX2_change rm_X2_change [.ref a, .int (nI g), .int (nI w), .int by1] Z [(a, .inr (2, [.ref b])), (b, zI Z 290 f)] (zQv Z (po_X2_change Z a b f g w by1) (wp_X2_change Z a b f g w by1)) 0 0 := by
  refine zstart (cc := cX2_change) (maxL := 4) (ret := none) (by decide) rfl (Nat.le_of_ble_eq_true rfl) ?_
  intro p e s m below meth c ls A hx hb hr hC hlk hnm hX hW hl
  have hml := hC.2.2.1
  have hown : s.vm.findClass RX2 = some m.cls := hC.2.2.2.1
  have hts := hC.2.2.2.2
  have hl : lv_has ls 4 [(0, .ref a), (1, .int (nI g)), (2, .int (nI w)), (3, .int by1)] := hl
  refine lv_iload_n hx hb dX2_change_0 rfl (lv_at hl 1 rfl) ?_
  refine zn_if_lt (tgt := 20) (a := g) hx hb (by omega) dX2_change_1 (by decide) ?_
  refine lv_iload_n hx hb dX2_change_4 rfl (lv_at hl 1 rfl) ?_
  refine lv_bipush (v := nI 29) hx hb dX2_change_5 (by decide) ?_
  refine zn_icmp_ge (tgt := 20) (a := g) (b := 29) hx hb (by omega) (by omega) dX2_change_7 (by decide) (fun c_7 => absurd c_7 (by omega)) (fun c_7 => ?_)
  refine lv_iload_n hx hb dX2_change_10 rfl (lv_at hl 2 rfl) ?_
  refine zn_if_lt (tgt := 20) (a := w) hx hb (by omega) dX2_change_11 (by decide) ?_
  refine lv_iload_n hx hb dX2_change_14 rfl (lv_at hl 2 rfl) ?_
  refine lv_bipush (v := nI 10) hx hb dX2_change_15 (by decide) ?_
  refine zn_icmp_lt (tgt := 21) (a := w) (b := 10) hx hb (by omega) (by omega) dX2_change_17 (by decide) (fun c_17 => ?_) (fun c_17 => absurd (by omega) c_17)
  refine lv_aload_n hx hb dX2_change_21 rfl (lv_at hl 0 rfl) ?_
  refine z_get (C := RX2) (T := TX2) (N := 1) hx hb hts mw_X2_change_1 hown hX hW 0 rfl rfl 0 (by decide) mw_X2_change_0 (fun _ h9 => h9) rfl dX2_change_22 ?_
  refine lv_iload_n hx hb dX2_change_25 rfl (lv_at hl 1 rfl) ?_
  refine lv_bipush (v := nI 10) hx hb dX2_change_26 (by decide) ?_
  refine lv_imul hx hb dX2_change_28 ?_
  refine zw_topi (pk_mul _ _) ?_
  refine lv_iload_n hx hb dX2_change_29 rfl (lv_at hl 2 rfl) ?_
  refine lv_iadd hx hb dX2_change_30 ?_
  refine zw_topi (nI_add _ _) ?_
  refine lv_dup2_11 hx hb dX2_change_31 rfl rfl ?_
  refine z_iald hx hb hX hW 1 rfl (k := ((g * 10) + w)) (by omega) (by omega) dX2_change_32 ?_
  refine lv_iload_n hx hb dX2_change_33 rfl (lv_at hl 3 rfl) ?_
  refine lv_iadd hx hb dX2_change_34 ?_
  refine z_iast hx hb hX hW 1 rfl (k := ((g * 10) + w)) (by omega) (by omega) dX2_change_35 (fun H locs hW => ?_)
  have hW : zW Z s A [(a, .inr (2, [.ref b])), (b, zI Z 290 (upd f ((g * 10) + w) ((f ((g * 10) + w)) + by1)))] _ _ := hW
  exact z_vret hx hb hr hlk hW () (trivial) (rfl) (by omega) (by omega) dX2_change_36
end
section
abbrev wp_X2_ofSign (Z : zT) (a b : Nat) (f : Nat → Int32) (g : Nat) : Unit → va_W := fun (u : Unit) => [(a, .inr (2, [.ref b])), (b, zI Z 290 f)]
abbrev po_X2_ofSign (Z : zT) (a b : Nat) (f : Nat → Int32) (g : Nat) : Int32 → Unit → Prop := fun (r : Int32) (u : Unit) => r = bx_sum (sg f g) 10
abbrev rm_X2_ofSign : Room := { frames := 1, cells := 0, slots := 0, locals := 22 }
set_option maxHeartbeats 4000000 in
set_option maxRecDepth 100000 in
theorem c_X2_ofSign (l : Launch) (Z : zT) (a b : Nat) (f : Nat → Int32) (g : Nat) (hg : g < 29) : zMet l yX2_ofSign wsX2_ofSign rm_X2_ofSign [.ref a, .int (nI g)] Z [(a, .inr (2, [.ref b])), (b, zI Z 290 f)] (zQi Z (po_X2_ofSign Z a b f g) (wp_X2_ofSign Z a b f g)) 0 0 := by
  refine zstart (cc := cX2_ofSign) (maxL := 4) (ret := (some .int)) (by decide) rfl (Nat.le_of_ble_eq_true rfl) ?_
  intro p e s m below meth c ls A hx hb hr hC hlk hnm hX hW hl
  have hml := hC.2.2.1
  have hown : s.vm.findClass RX2 = some m.cls := hC.2.2.2.1
  have hts := hC.2.2.2.2
  have hl : lv_has ls 4 [(0, .ref a), (1, .int (nI g))] := hl
  refine lv_iconst (v := nI 0) hx hb dX2_ofSign_0 (by decide) ?_
  refine lv_istore_n (lv' := [(2, .int (nI 0)), (0, .ref a), (1, .int (nI g))]) hx hb dX2_ofSign_1 rfl hl (by decide) rfl (fun ls hl => ?_)
  refine lv_iconst (v := nI 0) hx hb dX2_ofSign_2 (by decide) ?_
  refine lv_istore_n (lv' := [(3, .int (nI 0)), (2, .int (nI 0)), (0, .ref a), (1, .int (nI g))]) hx hb dX2_ofSign_3 rfl hl (by decide) rfl (fun ls hl => ?_)
  have loop_4 : ∀ (n : Nat) (j : Nat), (j ≤ 10) → (10 - j < n) → ∀ (H : Heap) (locs : List Loc) (ls : Array Slot), zW Z s A [(a, .inr (2, [.ref b])), (b, zI Z 290 f)] H locs → lv_has ls 4 [(3, .int (nI j)), (2, .int (bx_sum (sg f g) j)), (0, .ref a), (1, .int (nI g))] → W p l e rm_X2_ofSign s m ([.ref a, .int (nI g)] : List Value).toArray below meth c H locs 0 0 (MQ below (zQi Z (po_X2_ofSign Z a b f g) (wp_X2_ofSign Z a b f g) A) ([.ref a, .int (nI g)] : List Value).toArray s 0 0 A) (F0 m 4 ls []) := by
    intro n
    induction n with
    | zero =>
      intro j hj hm
      exact absurd hm (Nat.not_lt_zero _)
    | succ n ih =>
      intro j hj hm H locs ls hW hl
      have ih_4 := ih
      refine lv_iload_n hx hb dX2_ofSign_4 rfl (lv_at hl 0 rfl) ?_
      refine lv_bipush (v := nI 10) hx hb dX2_ofSign_5 (by decide) ?_
      refine zn_icmp_ge (tgt := 25) (a := j) (b := 10) hx hb (by omega) (by omega) dX2_ofSign_7 (by decide) (fun c_7 => ?_) (fun c_7 => ?_)
      · refine lv_iload_n hx hb dX2_ofSign_25 rfl (lv_at hl 1 rfl) ?_
        exact z_iret hx hb hr hlk hW () (by rw [show j = 10 by omega]) (rfl) (by omega) (by omega) dX2_ofSign_26
      · refine lv_iload_n hx hb dX2_ofSign_10 rfl (lv_at hl 1 rfl) ?_
        refine lv_aload_n hx hb dX2_ofSign_11 rfl (lv_at hl 2 rfl) ?_
        refine lv_iload_n hx hb dX2_ofSign_12 rfl (lv_at hl 3 rfl) ?_
        refine lv_iload_n hx hb dX2_ofSign_13 rfl (lv_at hl 0 rfl) ?_
        refine zc_i (va_runV (As := [.int (nI g), .int (nI j)]) (rest := [.int (bx_sum (sg f g) j)]) hC (c_X2_at l Z a b f g j (by omega) (by omega) _) (cwV 2 hts gX2_ofSign_X2_at rfl rfl rfl (by decide +kernel) ⟨Nat.le_of_ble_eq_true rfl, Nat.le_of_ble_eq_true rfl⟩) (zpreV (ci := 2) (q0 := 0) hX hW rfl rfl [0, 1] rfl (by decide)) rfl rfl hl.1 rfl (lv_room (Nat.le_of_ble_eq_true rfl)) dX2_ofSign_14 ⟨Nat.le_of_ble_eq_true rfl, Nat.le_of_ble_eq_true rfl⟩) hX hW [0, 1] rfl (by decide) (fun _ => rfl) (fun r_14 u_14 H locs h_14 hW => ?_)
        have hW : zW Z s A [(a, .inr (2, [.ref b])), (b, zI Z 290 f)] _ _ := hW
        subst h_14
        refine lv_iadd hx hb dX2_ofSign_17 ?_
        refine lv_istore_n (lv' := [(2, .int ((bx_sum (sg f g) j) + (f (g * 10 + j)))), (3, .int (nI j)), (0, .ref a), (1, .int (nI g))]) hx hb dX2_ofSign_18 rfl hl (by decide) rfl (fun ls hl => ?_)
        refine lv_iinc (v := nI (j + 1)) (lv' := [(3, .int (nI (j + 1))), (2, .int ((bx_sum (sg f g) j) + (f (g * 10 + j)))), (0, .ref a), (1, .int (nI g))]) hx hb dX2_ofSign_19 hl (k := 1) rfl (zinc1 _) (by decide) rfl (fun ls hl => ?_)
        refine lv_goto (tgt := 4) hx hb dX2_ofSign_22 (by decide) ?_
        have hl : lv_has ls 4 [(3, .int (nI (j + 1))), (2, .int (bx_sum (sg f g) (j + 1))), (0, .ref a), (1, .int (nI g))] := lv_sub hl [0, 1, 2, 3] rfl
        exact ih_4 (j + 1) (by omega) (by omega) _ _ _ hW hl
  have hl : lv_has ls 4 [(3, .int (nI 0)), (2, .int (bx_sum (sg f g) 0)), (0, .ref a), (1, .int (nI g))] := lv_sub hl [0, 1, 2, 3] rfl
  exact loop_4 _ 0 (by omega) (Nat.lt_succ_self _) _ _ _ hW hl
end
section
theorem mw_X2_inAll_0 : Cond.fieldLink RX2 9 "TypeFoundry$Sorts" "numbers" "[I" ∈ wsX2_inAll := by decide +kernel
theorem mw_X2_inAll_1 : ∀ w ∈ wsX20, w ∈ wsX2_inAll := by decide +kernel
abbrev wp_X2_inAll (Z : zT) (a b : Nat) (f : Nat → Int32) : Unit → va_W := fun (u : Unit) => [(a, .inr (2, [.ref b])), (b, zI Z 290 f)]
abbrev po_X2_inAll (Z : zT) (a b : Nat) (f : Nat → Int32) : Int32 → Unit → Prop := fun (r : Int32) (u : Unit) => r = bx_sum f 290
abbrev rm_X2_inAll : Room := { frames := 0, cells := 0, slots := 0, locals := 0 }
set_option maxHeartbeats 4000000 in
set_option maxRecDepth 100000 in
theorem c_X2_inAll (l : Launch) (Z : zT) (a b : Nat) (f : Nat → Int32)  : zMet l yX2_inAll wsX2_inAll rm_X2_inAll [.ref a] Z [(a, .inr (2, [.ref b])), (b, zI Z 290 f)] (zQi Z (po_X2_inAll Z a b f) (wp_X2_inAll Z a b f)) 0 0 := by
  refine zstart (cc := cX2_inAll) (maxL := 3) (ret := (some .int)) (by decide) rfl (Nat.le_of_ble_eq_true rfl) ?_
  intro p e s m below meth c ls A hx hb hr hC hlk hnm hX hW hl
  have hml := hC.2.2.1
  have hown : s.vm.findClass RX2 = some m.cls := hC.2.2.2.1
  have hts := hC.2.2.2.2
  have hl : lv_has ls 3 [(0, .ref a)] := hl
  refine lv_iconst (v := nI 0) hx hb dX2_inAll_0 (by decide) ?_
  refine lv_istore_n (lv' := [(1, .int (nI 0)), (0, .ref a)]) hx hb dX2_inAll_1 rfl hl (by decide) rfl (fun ls hl => ?_)
  refine lv_iconst (v := nI 0) hx hb dX2_inAll_2 (by decide) ?_
  refine lv_istore_n (lv' := [(2, .int (nI 0)), (1, .int (nI 0)), (0, .ref a)]) hx hb dX2_inAll_3 rfl hl (by decide) rfl (fun ls hl => ?_)
  have loop_4 : ∀ (n : Nat) (j : Nat), (j ≤ 290) → (290 - j < n) → ∀ (H : Heap) (locs : List Loc) (ls : Array Slot), zW Z s A [(a, .inr (2, [.ref b])), (b, zI Z 290 f)] H locs → lv_has ls 3 [(2, .int (nI j)), (1, .int (bx_sum f j)), (0, .ref a)] → W p l e rm_X2_inAll s m ([.ref a] : List Value).toArray below meth c H locs 0 0 (MQ below (zQi Z (po_X2_inAll Z a b f) (wp_X2_inAll Z a b f) A) ([.ref a] : List Value).toArray s 0 0 A) (F0 m 4 ls []) := by
    intro n
    induction n with
    | zero =>
      intro j hj hm
      exact absurd hm (Nat.not_lt_zero _)
    | succ n ih =>
      intro j hj hm H locs ls hW hl
      have ih_4 := ih
      refine lv_iload_n hx hb dX2_inAll_4 rfl (lv_at hl 0 rfl) ?_
      refine lv_aload_n hx hb dX2_inAll_5 rfl (lv_at hl 2 rfl) ?_
      refine z_get (C := RX2) (T := TX2) (N := 1) hx hb hts mw_X2_inAll_1 hown hX hW 0 rfl rfl 0 (by decide) mw_X2_inAll_0 (fun _ h9 => h9) rfl dX2_inAll_6 ?_
      refine z_alen hx hb hX hW 1 rfl dX2_inAll_9 ?_
      refine zn_icmp_ge (tgt := 28) (a := j) (b := 290) hx hb (by omega) (by omega) dX2_inAll_10 (by decide) (fun c_10 => ?_) (fun c_10 => ?_)
      · refine lv_iload_n hx hb dX2_inAll_28 rfl (lv_at hl 1 rfl) ?_
        exact z_iret hx hb hr hlk hW () (by rw [show j = 290 by omega]) (rfl) (by omega) (by omega) dX2_inAll_29
      · refine lv_iload_n hx hb dX2_inAll_13 rfl (lv_at hl 1 rfl) ?_
        refine lv_aload_n hx hb dX2_inAll_14 rfl (lv_at hl 2 rfl) ?_
        refine z_get (C := RX2) (T := TX2) (N := 1) hx hb hts mw_X2_inAll_1 hown hX hW 0 rfl rfl 0 (by decide) mw_X2_inAll_0 (fun _ h9 => h9) rfl dX2_inAll_15 ?_
        refine lv_iload_n hx hb dX2_inAll_18 rfl (lv_at hl 0 rfl) ?_
        refine z_iald hx hb hX hW 1 rfl (k := j) (by omega) (by omega) dX2_inAll_19 ?_
        refine lv_iadd hx hb dX2_inAll_20 ?_
        refine lv_istore_n (lv' := [(1, .int ((bx_sum f j) + (f j))), (2, .int (nI j)), (0, .ref a)]) hx hb dX2_inAll_21 rfl hl (by decide) rfl (fun ls hl => ?_)
        refine lv_iinc (v := nI (j + 1)) (lv' := [(2, .int (nI (j + 1))), (1, .int ((bx_sum f j) + (f j))), (0, .ref a)]) hx hb dX2_inAll_22 hl (k := 1) rfl (zinc1 _) (by decide) rfl (fun ls hl => ?_)
        refine lv_goto (tgt := 4) hx hb dX2_inAll_25 (by decide) ?_
        have hl : lv_has ls 3 [(2, .int (nI (j + 1))), (1, .int (bx_sum f (j + 1))), (0, .ref a)] := lv_sub hl [0, 1, 2] rfl
        exact ih_4 (j + 1) (by omega) (by omega) _ _ _ hW hl
  have hl : lv_has ls 3 [(2, .int (nI 0)), (1, .int (bx_sum f 0)), (0, .ref a)] := lv_sub hl [0, 1, 2] rfl
  exact loop_4 _ 0 (by omega) (Nat.lt_succ_self _) _ _ _ hW hl
end
section
theorem mw_X2_wearInAll_0 : Cond.fieldLink RX2 9 "TypeFoundry$Sorts" "numbers" "[I" ∈ wsX2_wearInAll := by decide +kernel
theorem mw_X2_wearInAll_1 : ∀ w ∈ wsX20, w ∈ wsX2_wearInAll := by decide +kernel
abbrev wp_X2_wearInAll (Z : zT) (a b : Nat) (f : Nat → Int32) : Unit → va_W := fun (u : Unit) => [(a, .inr (2, [.ref b])), (b, zI Z 290 f)]
abbrev po_X2_wearInAll (Z : zT) (a b : Nat) (f : Nat → Int32) : Int32 → Unit → Prop := fun (r : Int32) (u : Unit) => r = bx_sum (wr f) 290
abbrev rm_X2_wearInAll : Room := { frames := 0, cells := 0, slots := 0, locals := 0 }
set_option maxHeartbeats 4000000 in
set_option maxRecDepth 100000 in
theorem c_X2_wearInAll (l : Launch) (Z : zT) (a b : Nat) (f : Nat → Int32)  : zMet l yX2_wearInAll wsX2_wearInAll rm_X2_wearInAll [.ref a] Z [(a, .inr (2, [.ref b])), (b, zI Z 290 f)] (zQi Z (po_X2_wearInAll Z a b f) (wp_X2_wearInAll Z a b f)) 0 0 := by
  refine zstart (cc := cX2_wearInAll) (maxL := 3) (ret := (some .int)) (by decide) rfl (Nat.le_of_ble_eq_true rfl) ?_
  intro p e s m below meth c ls A hx hb hr hC hlk hnm hX hW hl
  have hml := hC.2.2.1
  have hown : s.vm.findClass RX2 = some m.cls := hC.2.2.2.1
  have hts := hC.2.2.2.2
  have hl : lv_has ls 3 [(0, .ref a)] := hl
  refine lv_iconst (v := nI 0) hx hb dX2_wearInAll_0 (by decide) ?_
  refine lv_istore_n (lv' := [(1, .int (nI 0)), (0, .ref a)]) hx hb dX2_wearInAll_1 rfl hl (by decide) rfl (fun ls hl => ?_)
  refine lv_iconst (v := nI 0) hx hb dX2_wearInAll_2 (by decide) ?_
  refine lv_istore_n (lv' := [(2, .int (nI 0)), (1, .int (nI 0)), (0, .ref a)]) hx hb dX2_wearInAll_3 rfl hl (by decide) rfl (fun ls hl => ?_)
  have loop_4 : ∀ (n : Nat) (j : Nat), (j ≤ 290) → (290 - j < n) → ∀ (H : Heap) (locs : List Loc) (ls : Array Slot), zW Z s A [(a, .inr (2, [.ref b])), (b, zI Z 290 f)] H locs → lv_has ls 3 [(2, .int (nI j)), (1, .int (bx_sum (wr f) j)), (0, .ref a)] → W p l e rm_X2_wearInAll s m ([.ref a] : List Value).toArray below meth c H locs 0 0 (MQ below (zQi Z (po_X2_wearInAll Z a b f) (wp_X2_wearInAll Z a b f) A) ([.ref a] : List Value).toArray s 0 0 A) (F0 m 4 ls []) := by
    intro n
    induction n with
    | zero =>
      intro j hj hm
      exact absurd hm (Nat.not_lt_zero _)
    | succ n ih =>
      intro j hj hm H locs ls hW hl
      have ih_4 := ih
      refine lv_iload_n hx hb dX2_wearInAll_4 rfl (lv_at hl 0 rfl) ?_
      refine lv_aload_n hx hb dX2_wearInAll_5 rfl (lv_at hl 2 rfl) ?_
      refine z_get (C := RX2) (T := TX2) (N := 1) hx hb hts mw_X2_wearInAll_1 hown hX hW 0 rfl rfl 0 (by decide) mw_X2_wearInAll_0 (fun _ h9 => h9) rfl dX2_wearInAll_6 ?_
      refine z_alen hx hb hX hW 1 rfl dX2_wearInAll_9 ?_
      refine zn_icmp_ge (tgt := 33) (a := j) (b := 290) hx hb (by omega) (by omega) dX2_wearInAll_10 (by decide) (fun c_10 => ?_) (fun c_10 => ?_)
      · refine lv_iload_n hx hb dX2_wearInAll_33 rfl (lv_at hl 1 rfl) ?_
        exact z_iret hx hb hr hlk hW () (by rw [show j = 290 by omega]) (rfl) (by omega) (by omega) dX2_wearInAll_34
      · refine lv_iload_n hx hb dX2_wearInAll_13 rfl (lv_at hl 1 rfl) ?_
        refine lv_aload_n hx hb dX2_wearInAll_14 rfl (lv_at hl 2 rfl) ?_
        refine z_get (C := RX2) (T := TX2) (N := 1) hx hb hts mw_X2_wearInAll_1 hown hX hW 0 rfl rfl 0 (by decide) mw_X2_wearInAll_0 (fun _ h9 => h9) rfl dX2_wearInAll_15 ?_
        refine lv_iload_n hx hb dX2_wearInAll_18 rfl (lv_at hl 0 rfl) ?_
        refine z_iald hx hb hX hW 1 rfl (k := j) (by omega) (by omega) dX2_wearInAll_19 ?_
        refine lv_iload_n hx hb dX2_wearInAll_20 rfl (lv_at hl 0 rfl) ?_
        refine lv_bipush (v := nI 10) hx hb dX2_wearInAll_21 (by decide) ?_
        refine lv_irem hx hb dX2_wearInAll_23 (by decide) ?_
        refine zw_topi (pk_rem (by omega) (by omega) (by omega)) ?_
        refine lv_imul hx hb dX2_wearInAll_24 ?_
        refine lv_iadd hx hb dX2_wearInAll_25 ?_
        refine lv_istore_n (lv' := [(1, .int ((bx_sum (wr f) j) + ((f j) * (nI (j % 10))))), (2, .int (nI j)), (0, .ref a)]) hx hb dX2_wearInAll_26 rfl hl (by decide) rfl (fun ls hl => ?_)
        refine lv_iinc (v := nI (j + 1)) (lv' := [(2, .int (nI (j + 1))), (1, .int ((bx_sum (wr f) j) + ((f j) * (nI (j % 10))))), (0, .ref a)]) hx hb dX2_wearInAll_27 hl (k := 1) rfl (zinc1 _) (by decide) rfl (fun ls hl => ?_)
        refine lv_goto (tgt := 4) hx hb dX2_wearInAll_30 (by decide) ?_
        have hl : lv_has ls 3 [(2, .int (nI (j + 1))), (1, .int (bx_sum (wr f) (j + 1))), (0, .ref a)] := lv_sub hl [0, 1, 2] rfl
        exact ih_4 (j + 1) (by omega) (by omega) _ _ _ hW hl
  have hl : lv_has ls 3 [(2, .int (nI 0)), (1, .int (bx_sum (wr f) 0)), (0, .ref a)] := lv_sub hl [0, 1, 2] rfl
  exact loop_4 _ 0 (by omega) (Nat.lt_succ_self _) _ _ _ hW hl
end
section
theorem mw_X2_greatestWear_0 : Cond.fieldLink RX2 9 "TypeFoundry$Sorts" "numbers" "[I" ∈ wsX2_greatestWear := by decide +kernel
theorem mw_X2_greatestWear_1 : ∀ w ∈ wsX20, w ∈ wsX2_greatestWear := by decide +kernel
theorem mw_X2_greatestWear_2 : Cond.methodLink RX2 19 Lib.Math.max.name ∈ wsX2_greatestWear := by decide +kernel
theorem mw_X2_greatestWear_3 : Cond.static Lib.Math.max.name ∈ wsX2_greatestWear := by decide +kernel
theorem mw_X2_greatestWear_4 : Cond.initialized "java/lang/Math" ∈ wsX2_greatestWear := by decide +kernel
theorem mw_X2_greatestWear_5 : Cond.code Lib.Math.max.name Lib.Math.max.code 2 (some .int) ∈ wsX2_greatestWear := by decide +kernel
abbrev wp_X2_greatestWear (Z : zT) (a b : Nat) (f : Nat → Int32) : Unit → va_W := fun (u : Unit) => [(a, .inr (2, [.ref b])), (b, zI Z 290 f)]
abbrev po_X2_greatestWear (Z : zT) (a b : Nat) (f : Nat → Int32) : Int32 → Unit → Prop := fun (r : Int32) (u : Unit) => r = gw f 290
abbrev rm_X2_greatestWear : Room := { frames := 1, cells := 0, slots := 0, locals := 13 }
set_option maxHeartbeats 4000000 in
set_option maxRecDepth 100000 in
theorem c_X2_greatestWear (l : Launch) (Z : zT) (a b : Nat) (f : Nat → Int32)  : zMet l yX2_greatestWear wsX2_greatestWear rm_X2_greatestWear [.ref a] Z [(a, .inr (2, [.ref b])), (b, zI Z 290 f)] (zQi Z (po_X2_greatestWear Z a b f) (wp_X2_greatestWear Z a b f)) 0 0 := by
  refine zstart (cc := cX2_greatestWear) (maxL := 3) (ret := (some .int)) (by decide) rfl (Nat.le_of_ble_eq_true rfl) ?_
  intro p e s m below meth c ls A hx hb hr hC hlk hnm hX hW hl
  have hml := hC.2.2.1
  have hown : s.vm.findClass RX2 = some m.cls := hC.2.2.2.1
  have hts := hC.2.2.2.2
  have hl : lv_has ls 3 [(0, .ref a)] := hl
  refine lv_iconst (v := -1) hx hb dX2_greatestWear_0 (by decide) ?_
  refine lv_istore_n (lv' := [(1, .int (-1)), (0, .ref a)]) hx hb dX2_greatestWear_1 rfl hl (by decide) rfl (fun ls hl => ?_)
  refine lv_iconst (v := nI 0) hx hb dX2_greatestWear_2 (by decide) ?_
  refine lv_istore_n (lv' := [(2, .int (nI 0)), (1, .int (-1)), (0, .ref a)]) hx hb dX2_greatestWear_3 rfl hl (by decide) rfl (fun ls hl => ?_)
  have loop_4 : ∀ (n : Nat) (j : Nat) (x : Int32), (j ≤ 290) → (x = gw f j) → (290 - j < n) → ∀ (H : Heap) (locs : List Loc) (ls : Array Slot), zW Z s A [(a, .inr (2, [.ref b])), (b, zI Z 290 f)] H locs → lv_has ls 3 [(2, .int (nI j)), (1, .int x), (0, .ref a)] → W p l e rm_X2_greatestWear s m ([.ref a] : List Value).toArray below meth c H locs 0 0 (MQ below (zQi Z (po_X2_greatestWear Z a b f) (wp_X2_greatestWear Z a b f) A) ([.ref a] : List Value).toArray s 0 0 A) (F0 m 4 ls []) := by
    intro n
    induction n with
    | zero =>
      intro j x hj hx9 hm
      exact absurd hm (Nat.not_lt_zero _)
    | succ n ih =>
      intro j x hj hx9 hm H locs ls hW hl
      have ih_4 := ih
      refine lv_iload_n hx hb dX2_greatestWear_4 rfl (lv_at hl 0 rfl) ?_
      refine lv_aload_n hx hb dX2_greatestWear_5 rfl (lv_at hl 2 rfl) ?_
      refine z_get (C := RX2) (T := TX2) (N := 1) hx hb hts mw_X2_greatestWear_1 hown hX hW 0 rfl rfl 0 (by decide) mw_X2_greatestWear_0 (fun _ h9 => h9) rfl dX2_greatestWear_6 ?_
      refine z_alen hx hb hX hW 1 rfl dX2_greatestWear_9 ?_
      refine zn_icmp_ge (tgt := 37) (a := j) (b := 290) hx hb (by omega) (by omega) dX2_greatestWear_10 (by decide) (fun c_10 => ?_) (fun c_10 => ?_)
      · refine lv_iload_n hx hb dX2_greatestWear_37 rfl (lv_at hl 1 rfl) ?_
        exact z_iret hx hb hr hlk hW () (by rw [hx9, show j = 290 by omega]) (rfl) (by omega) (by omega) dX2_greatestWear_38
      · refine lv_aload_n hx hb dX2_greatestWear_13 rfl (lv_at hl 2 rfl) ?_
        refine z_get (C := RX2) (T := TX2) (N := 1) hx hb hts mw_X2_greatestWear_1 hown hX hW 0 rfl rfl 0 (by decide) mw_X2_greatestWear_0 (fun _ h9 => h9) rfl dX2_greatestWear_14 ?_
        refine lv_iload_n hx hb dX2_greatestWear_17 rfl (lv_at hl 0 rfl) ?_
        refine z_iald hx hb hX hW 1 rfl (k := j) (by omega) (by omega) dX2_greatestWear_18 ?_
        refine lv_if_le (tgt := 31) hx hb dX2_greatestWear_19 (by decide) (fun c_19 => ?_) (fun c_19 => ?_)
        · have hg9 := Int32.not_lt.mpr c_19
          refine lv_iinc (v := nI (j + 1)) (lv' := [(2, .int (nI (j + 1))), (1, .int x), (0, .ref a)]) hx hb dX2_greatestWear_31 hl (k := 0) rfl (zinc1 _) (by decide) rfl (fun ls hl => ?_)
          refine lv_goto (tgt := 4) hx hb dX2_greatestWear_34 (by decide) ?_
          have hl : lv_has ls 3 [(2, .int (nI (j + 1))), (1, .int x), (0, .ref a)] := lv_sub hl [0, 1, 2] rfl
          exact ih_4 (j + 1) x (by omega) (by subst hx9; first | exact gw_t hg9 | exact gw_f hg9) (by omega) _ _ _ hW hl
        · have hg9 := Int32.not_le.mp c_19
          refine lv_iload_n hx hb dX2_greatestWear_22 rfl (lv_at hl 1 rfl) ?_
          refine lv_iload_n hx hb dX2_greatestWear_23 rfl (lv_at hl 0 rfl) ?_
          refine lv_bipush (v := nI 10) hx hb dX2_greatestWear_24 (by decide) ?_
          refine lv_irem hx hb dX2_greatestWear_26 (by decide) ?_
          refine zw_topi (pk_rem (by omega) (by omega) (by omega)) ?_
          refine va_mmax hx hb (hml.trans hl.1.symm) hown (hts _ mw_X2_greatestWear_2) (hts _ mw_X2_greatestWear_3) (hts _ mw_X2_greatestWear_4) (hts _ mw_X2_greatestWear_5) (Nat.le_of_ble_eq_true rfl) (Nat.le_of_ble_eq_true rfl) (Nat.le_of_ble_eq_true rfl) (Nat.le_of_ble_eq_true rfl) dX2_greatestWear_27 ?_
          refine lv_istore_n (lv' := [(1, .int (if x < nI (j % 10) then nI (j % 10) else x)), (2, .int (nI j)), (0, .ref a)]) hx hb dX2_greatestWear_30 rfl hl (by decide) rfl (fun ls hl => ?_)
          refine lv_iinc (v := nI (j + 1)) (lv' := [(2, .int (nI (j + 1))), (1, .int (if x < nI (j % 10) then nI (j % 10) else x)), (0, .ref a)]) hx hb dX2_greatestWear_31 hl (k := 1) rfl (zinc1 _) (by decide) rfl (fun ls hl => ?_)
          refine lv_goto (tgt := 4) hx hb dX2_greatestWear_34 (by decide) ?_
          have hl : lv_has ls 3 [(2, .int (nI (j + 1))), (1, .int (if x < nI (j % 10) then nI (j % 10) else x)), (0, .ref a)] := lv_sub hl [0, 1, 2] rfl
          exact ih_4 (j + 1) (if x < nI (j % 10) then nI (j % 10) else x) (by omega) (by subst hx9; first | exact gw_t hg9 | exact gw_f hg9) (by omega) _ _ _ hW hl
  have hl : lv_has ls 3 [(2, .int (nI 0)), (1, .int (-1)), (0, .ref a)] := lv_sub hl [0, 1, 2] rfl
  exact loop_4 _ 0 (-1) (by omega) rfl (Nat.lt_succ_self _) _ _ _ hW hl
end
section
theorem mw_X2_metalFrom_0 : Cond.initialized RX4 ∈ wsX2_metalFrom := by decide +kernel
theorem mw_X2_metalFrom_1 : Cond.static yX4_isLigature ∈ wsX2_metalFrom := by decide +kernel
abbrev wp_X2_metalFrom (Z : zT) (a b : Nat) (f : Nat → Int32) (w : Nat) : Unit → va_W := fun (u : Unit) => [(a, .inr (2, [.ref b])), (b, zI Z 290 f)]
abbrev po_X2_metalFrom (Z : zT) (a b : Nat) (f : Nat → Int32) (w : Nat) : Int32 → Unit → Prop := fun (r : Int32) (u : Unit) => r = mf f w 290
abbrev rm_X2_metalFrom : Room := { frames := 1, cells := 0, slots := 0, locals := 22 }
set_option maxHeartbeats 4000000 in
set_option maxRecDepth 100000 in
theorem c_X2_metalFrom (l : Launch) (Z : zT) (a b : Nat) (f : Nat → Int32) (w : Nat) (hw : w < 10) : zMet l yX2_metalFrom wsX2_metalFrom rm_X2_metalFrom [.ref a, .int (nI w)] Z [(a, .inr (2, [.ref b])), (b, zI Z 290 f)] (zQi Z (po_X2_metalFrom Z a b f w) (wp_X2_metalFrom Z a b f w)) 0 0 := by
  refine zstart (cc := cX2_metalFrom) (maxL := 5) (ret := (some .int)) (by decide) rfl (Nat.le_of_ble_eq_true rfl) ?_
  intro p e s m below meth c ls A hx hb hr hC hlk hnm hX hW hl
  have hml := hC.2.2.1
  have hown : s.vm.findClass RX2 = some m.cls := hC.2.2.2.1
  have hts := hC.2.2.2.2
  have hl : lv_has ls 5 [(0, .ref a), (1, .int (nI w))] := hl
  refine lv_iconst (v := nI 0) hx hb dX2_metalFrom_0 (by decide) ?_
  refine lv_istore_n (lv' := [(2, .int (nI 0)), (0, .ref a), (1, .int (nI w))]) hx hb dX2_metalFrom_1 rfl hl (by decide) rfl (fun ls hl => ?_)
  refine lv_iconst (v := nI 0) hx hb dX2_metalFrom_2 (by decide) ?_
  refine lv_istore_n (lv' := [(3, .int (nI 0)), (2, .int (nI 0)), (0, .ref a), (1, .int (nI w))]) hx hb dX2_metalFrom_3 rfl hl (by decide) rfl (fun ls hl => ?_)
  have loop_4 : ∀ (n : Nat) (g : Nat) (y : Int32), (g ≤ 29) → (y = mf f w (g * 10)) → (29 - g < n) → ∀ (H : Heap) (locs : List Loc) (ls : Array Slot), zW Z s A [(a, .inr (2, [.ref b])), (b, zI Z 290 f)] H locs → lv_has ls 5 [(3, .int (nI g)), (2, .int y), (0, .ref a), (1, .int (nI w))] → W p l e rm_X2_metalFrom s m ([.ref a, .int (nI w)] : List Value).toArray below meth c H locs 0 0 (MQ below (zQi Z (po_X2_metalFrom Z a b f w) (wp_X2_metalFrom Z a b f w) A) ([.ref a, .int (nI w)] : List Value).toArray s 0 0 A) (F0 m 4 ls []) := by
    intro n
    induction n with
    | zero =>
      intro g y hg hy9 hm
      exact absurd hm (Nat.not_lt_zero _)
    | succ n ih =>
      intro g y hg hy9 hm H locs ls hW hl
      have ih_4 := ih
      refine lv_iload_n hx hb dX2_metalFrom_4 rfl (lv_at hl 0 rfl) ?_
      refine lv_bipush (v := nI 29) hx hb dX2_metalFrom_5 (by decide) ?_
      refine zn_icmp_ge (tgt := 55) (a := g) (b := 29) hx hb (by omega) (by omega) dX2_metalFrom_7 (by decide) (fun c_7 => ?_) (fun c_7 => ?_)
      · refine lv_iload_n hx hb dX2_metalFrom_55 rfl (lv_at hl 1 rfl) ?_
        exact z_iret hx hb hr hlk hW () (by rw [hy9, show g = 29 by omega]) (rfl) (by omega) (by omega) dX2_metalFrom_56
      · refine lv_iload_n hx hb dX2_metalFrom_10 rfl (lv_at hl 3 rfl) ?_
        refine lv_istore (lv' := [(4, .int (nI w)), (3, .int (nI g)), (2, .int y), (0, .ref a), (1, .int (nI w))]) hx hb dX2_metalFrom_11 hl (by decide) rfl (fun ls hl => ?_)
        have loop_13 : ∀ (n : Nat) (j : Nat) (x : Int32), (w ≤ j ∧ j ≤ 10) → (x = mf f w (g * 10 + j)) → (10 - j < n) → ∀ (H : Heap) (locs : List Loc) (ls : Array Slot), zW Z s A [(a, .inr (2, [.ref b])), (b, zI Z 290 f)] H locs → lv_has ls 5 [(4, .int (nI j)), (3, .int (nI g)), (2, .int x), (0, .ref a), (1, .int (nI w))] → W p l e rm_X2_metalFrom s m ([.ref a, .int (nI w)] : List Value).toArray below meth c H locs 0 0 (MQ below (zQi Z (po_X2_metalFrom Z a b f w) (wp_X2_metalFrom Z a b f w) A) ([.ref a, .int (nI w)] : List Value).toArray s 0 0 A) (F0 m 13 ls []) := by
          intro n
          induction n with
          | zero =>
            intro j x hj hx9 hm
            exact absurd hm (Nat.not_lt_zero _)
          | succ n ih =>
            intro j x hj hx9 hm H locs ls hW hl
            have ih_13 := ih
            refine lv_iload hx hb dX2_metalFrom_13 (lv_at hl 0 rfl) ?_
            refine lv_bipush (v := nI 10) hx hb dX2_metalFrom_15 (by decide) ?_
            refine zn_icmp_ge (tgt := 49) (a := j) (b := 10) hx hb (by omega) (by omega) dX2_metalFrom_17 (by decide) (fun c_17 => ?_) (fun c_17 => ?_)
            · refine lv_iinc (v := nI (g + 1)) (lv' := [(3, .int (nI (g + 1))), (4, .int (nI j)), (2, .int x), (0, .ref a), (1, .int (nI w))]) hx hb dX2_metalFrom_49 hl (k := 1) rfl (zinc1 _) (by decide) rfl (fun ls hl => ?_)
              refine lv_goto (tgt := 4) hx hb dX2_metalFrom_52 (by decide) ?_
              have hl : lv_has ls 5 [(3, .int (nI (g + 1))), (2, .int x), (0, .ref a), (1, .int (nI w))] := lv_sub hl [0, 2, 3, 4] rfl
              exact ih_4 (g + 1) x (by omega) (by rw [hx9, show j = 10 by omega, show g * 10 + 10 = (g + 1) * 10 by omega]) (by omega) _ _ _ hW hl
            · refine lv_iload_n hx hb dX2_metalFrom_20 rfl (lv_at hl 2 rfl) ?_
              refine lv_aload_n hx hb dX2_metalFrom_21 rfl (lv_at hl 3 rfl) ?_
              refine lv_iload_n hx hb dX2_metalFrom_22 rfl (lv_at hl 1 rfl) ?_
              refine lv_iload hx hb dX2_metalFrom_23 (lv_at hl 0 rfl) ?_
              refine zc_i (va_runV (As := [.int (nI g), .int (nI j)]) (rest := [.int x]) hC (c_X2_at l Z a b f g j (by omega) (by omega) _) (cwV 2 hts gX2_metalFrom_X2_at rfl rfl rfl (by decide +kernel) ⟨Nat.le_of_ble_eq_true rfl, Nat.le_of_ble_eq_true rfl⟩) (zpreV (ci := 2) (q0 := 0) hX hW rfl rfl [0, 1] rfl (by decide)) rfl rfl hl.1 rfl (lv_room (Nat.le_of_ble_eq_true rfl)) dX2_metalFrom_25 ⟨Nat.le_of_ble_eq_true rfl, Nat.le_of_ble_eq_true rfl⟩) hX hW [0, 1] rfl (by decide) (fun _ => rfl) (fun r_25 u_25 H locs h_25 hW => ?_)
              have hW : zW Z s A [(a, .inr (2, [.ref b])), (b, zI Z 290 f)] _ _ := hW
              subst h_25
              refine lv_iload_n hx hb dX2_metalFrom_28 rfl (lv_at hl 1 rfl) ?_
              refine zc_i (va_runSN (As := [.int (nI g)]) (rest := [.int (f (g * 10 + j)), .int x]) hC (c_X4_isLigature l Z g (by omega) _) ⟨va_cnB 1 hts gX2_metalFrom_X4_isLigature_n24 rfl rfl rfl (hX.1.2.1 (Cond.methodLinkNest RX2 24 yX4_isLigature RX4) (by decide +kernel)) (hts _ mw_X2_metalFrom_0) (by decide +kernel) ⟨Nat.le_of_ble_eq_true rfl, Nat.le_of_ble_eq_true rfl⟩, hts _ mw_X2_metalFrom_1, trivial⟩ (zpreS hX hW [] rfl (by decide)) rfl rfl hl.1 rfl (lv_room (Nat.le_of_ble_eq_true rfl)) dX2_metalFrom_29 ⟨Nat.le_of_ble_eq_true rfl, Nat.le_of_ble_eq_true rfl⟩) hX hW [] rfl (by decide) (fun _ => rfl) (fun r_29 u_29 H locs h_29 hW => ?_)
              have hW : zW Z s A [(a, .inr (2, [.ref b])), (b, zI Z 290 f)] _ _ := hW
              subst h_29
              refine lv_if_eq (tgt := 39) hx hb dX2_metalFrom_32 (by decide) (fun c_32 => ?_) (fun c_32 => ?_)
              · have hlg := zlig0 c_32
                refine lv_iconst (v := nI 1) hx hb dX2_metalFrom_39 (by decide) ?_
                refine lv_imul hx hb dX2_metalFrom_40 ?_
                refine lv_iadd hx hb dX2_metalFrom_41 ?_
                refine lv_istore_n (lv' := [(2, .int (x + ((f (g * 10 + j)) * (nI 1)))), (4, .int (nI j)), (3, .int (nI g)), (0, .ref a), (1, .int (nI w))]) hx hb dX2_metalFrom_42 rfl hl (by decide) rfl (fun ls hl => ?_)
                refine lv_iinc (v := nI (j + 1)) (lv' := [(4, .int (nI (j + 1))), (2, .int (x + ((f (g * 10 + j)) * (nI 1)))), (3, .int (nI g)), (0, .ref a), (1, .int (nI w))]) hx hb dX2_metalFrom_43 hl (k := 1) rfl (zinc1 _) (by decide) rfl (fun ls hl => ?_)
                refine lv_goto (tgt := 13) hx hb dX2_metalFrom_46 (by decide) ?_
                have hl : lv_has ls 5 [(4, .int (nI (j + 1))), (3, .int (nI g)), (2, .int (x + ((f (g * 10 + j)) * (nI 1)))), (0, .ref a), (1, .int (nI w))] := lv_sub hl [0, 2, 1, 3, 4] rfl
                exact ih_13 (j + 1) (x + ((f (g * 10 + j)) * (nI 1))) (by omega) (by subst hx9; first | exact mf_s1 (by omega) (by omega) hlg | exact mf_s2 (by omega) (by omega) hlg) (by omega) _ _ _ hW hl
              · have hlg := zlig1 c_32
                refine lv_iconst (v := nI 2) hx hb dX2_metalFrom_35 (by decide) ?_
                refine lv_goto (tgt := 40) hx hb dX2_metalFrom_36 (by decide) ?_
                refine lv_imul hx hb dX2_metalFrom_40 ?_
                refine lv_iadd hx hb dX2_metalFrom_41 ?_
                refine lv_istore_n (lv' := [(2, .int (x + ((f (g * 10 + j)) * (nI 2)))), (4, .int (nI j)), (3, .int (nI g)), (0, .ref a), (1, .int (nI w))]) hx hb dX2_metalFrom_42 rfl hl (by decide) rfl (fun ls hl => ?_)
                refine lv_iinc (v := nI (j + 1)) (lv' := [(4, .int (nI (j + 1))), (2, .int (x + ((f (g * 10 + j)) * (nI 2)))), (3, .int (nI g)), (0, .ref a), (1, .int (nI w))]) hx hb dX2_metalFrom_43 hl (k := 1) rfl (zinc1 _) (by decide) rfl (fun ls hl => ?_)
                refine lv_goto (tgt := 13) hx hb dX2_metalFrom_46 (by decide) ?_
                have hl : lv_has ls 5 [(4, .int (nI (j + 1))), (3, .int (nI g)), (2, .int (x + ((f (g * 10 + j)) * (nI 2)))), (0, .ref a), (1, .int (nI w))] := lv_sub hl [0, 2, 1, 3, 4] rfl
                exact ih_13 (j + 1) (x + ((f (g * 10 + j)) * (nI 2))) (by omega) (by subst hx9; first | exact mf_s1 (by omega) (by omega) hlg | exact mf_s2 (by omega) (by omega) hlg) (by omega) _ _ _ hW hl
        have hl : lv_has ls 5 [(4, .int (nI w)), (3, .int (nI g)), (2, .int y), (0, .ref a), (1, .int (nI w))] := lv_sub hl [0, 1, 2, 3, 4] rfl
        exact loop_13 _ w y (by omega) (by rw [hy9, mf_skip f w g w (by omega) (by omega)]) (Nat.lt_succ_self _) _ _ _ hW hl
  have hl : lv_has ls 5 [(3, .int (nI 0)), (2, .int (nI 0)), (0, .ref a), (1, .int (nI w))] := lv_sub hl [0, 1, 2, 3] rfl
  exact loop_4 _ 0 (nI 0) (by omega) rfl (Nat.lt_succ_self _) _ _ _ hW hl
end
section
abbrev wp_X2_empty (Z : zT) (a b : Nat) (f : Nat → Int32) (g w : Nat) : Unit → va_W := fun (u : Unit) => [(a, .inr (2, [.ref b])), (b, zI Z 290 (upd f (g * 10 + w) (f (g * 10 + w) + -f (g * 10 + w))))]
abbrev po_X2_empty (Z : zT) (a b : Nat) (f : Nat → Int32) (g w : Nat) : Int32 → Unit → Prop := fun (r : Int32) (u : Unit) => r = f (g * 10 + w)
abbrev rm_X2_empty : Room := { frames := 1, cells := 0, slots := 0, locals := 23 }
set_option maxHeartbeats 4000000 in
set_option maxRecDepth 100000 in
theorem c_X2_empty (l : Launch) (Z : zT) (a b : Nat) (f : Nat → Int32) (g w : Nat) (hg : g < 29) (hw : w < 10) : zMet l yX2_empty wsX2_empty rm_X2_empty [.ref a, .int (nI g), .int (nI w)] Z [(a, .inr (2, [.ref b])), (b, zI Z 290 f)] (zQi Z (po_X2_empty Z a b f g w) (wp_X2_empty Z a b f g w)) 0 0 := by
  refine zstart (cc := cX2_empty) (maxL := 4) (ret := (some .int)) (by decide) rfl (Nat.le_of_ble_eq_true rfl) ?_
  intro p e s m below meth c ls A hx hb hr hC hlk hnm hX hW hl
  have hml := hC.2.2.1
  have hown : s.vm.findClass RX2 = some m.cls := hC.2.2.2.1
  have hts := hC.2.2.2.2
  have hl : lv_has ls 4 [(0, .ref a), (1, .int (nI g)), (2, .int (nI w))] := hl
  refine lv_aload_n hx hb dX2_empty_0 rfl (lv_at hl 0 rfl) ?_
  refine lv_iload_n hx hb dX2_empty_1 rfl (lv_at hl 1 rfl) ?_
  refine lv_iload_n hx hb dX2_empty_2 rfl (lv_at hl 2 rfl) ?_
  refine zc_i (va_runV (As := [.int (nI g), .int (nI w)]) (rest := []) hC (c_X2_at l Z a b f g w (by omega) (by omega) _) (cwV 2 hts gX2_empty_X2_at rfl rfl rfl (by decide +kernel) ⟨Nat.le_of_ble_eq_true rfl, Nat.le_of_ble_eq_true rfl⟩) (zpreV (ci := 2) (q0 := 0) hX hW rfl rfl [0, 1] rfl (by decide)) rfl rfl hl.1 rfl (lv_room (Nat.le_of_ble_eq_true rfl)) dX2_empty_3 ⟨Nat.le_of_ble_eq_true rfl, Nat.le_of_ble_eq_true rfl⟩) hX hW [0, 1] rfl (by decide) (fun _ => rfl) (fun r_3 u_3 H locs h_3 hW => ?_)
  have hW : zW Z s A [(a, .inr (2, [.ref b])), (b, zI Z 290 f)] _ _ := hW
  subst h_3
  refine lv_istore_n (lv' := [(3, .int (f (g * 10 + w))), (0, .ref a), (1, .int (nI g)), (2, .int (nI w))]) hx hb dX2_empty_6 rfl hl (by decide) rfl (fun ls hl => ?_)
  refine lv_aload_n hx hb dX2_empty_7 rfl (lv_at hl 1 rfl) ?_
  refine lv_iload_n hx hb dX2_empty_8 rfl (lv_at hl 2 rfl) ?_
  refine lv_iload_n hx hb dX2_empty_9 rfl (lv_at hl 3 rfl) ?_
  refine lv_iload_n hx hb dX2_empty_10 rfl (lv_at hl 0 rfl) ?_
  refine lv_ineg hx hb dX2_empty_11 ?_
  refine zc_v (va_runV (As := [.int (nI g), .int (nI w), .int (-(f (g * 10 + w)))]) (rest := []) hC (c_X2_change l Z a b f g w (-(f (g * 10 + w))) (by omega) (by omega) _) (cwV 3 hts gX2_empty_X2_change rfl rfl rfl (by decide +kernel) ⟨Nat.le_of_ble_eq_true rfl, Nat.le_of_ble_eq_true rfl⟩) (zpreV (ci := 2) (q0 := 0) hX hW rfl rfl [0, 1] rfl (by decide)) rfl rfl hl.1 rfl (lv_room (Nat.le_of_ble_eq_true rfl)) dX2_empty_12 ⟨Nat.le_of_ble_eq_true rfl, Nat.le_of_ble_eq_true rfl⟩) hX hW [0, 1] rfl (by decide) (fun _ => rfl) (fun u_12 H locs h_12 hW => ?_)
  have hW : zW Z s A [(a, .inr (2, [.ref b])), (b, zI Z 290 (upd f (g * 10 + w) (f (g * 10 + w) + (-(f (g * 10 + w))))))] _ _ := hW
  refine lv_iload_n hx hb dX2_empty_15 rfl (lv_at hl 0 rfl) ?_
  exact z_iret hx hb hr hlk hW () (rfl) (rfl) (by omega) (by omega) dX2_empty_16
end
section
abbrev wp_X2_dropFrom (Z : zT) (a b : Nat) (f : Nat → Int32) (w : Nat) : Unit → va_W := fun (u : Unit) => [(a, .inr (2, [.ref b])), (b, zI Z 290 (df f w 290))]
abbrev po_X2_dropFrom (Z : zT) (a b : Nat) (f : Nat → Int32) (w : Nat) : Int32 → Unit → Prop := fun (r : Int32) (u : Unit) => r = cf f w 290
abbrev rm_X2_dropFrom : Room := { frames := 2, cells := 0, slots := 0, locals := 46 }
set_option maxHeartbeats 4000000 in
set_option maxRecDepth 100000 in
theorem c_X2_dropFrom (l : Launch) (Z : zT) (a b : Nat) (f : Nat → Int32) (w : Nat) (hw : w < 10) : zMet l yX2_dropFrom wsX2_dropFrom rm_X2_dropFrom [.ref a, .int (nI w)] Z [(a, .inr (2, [.ref b])), (b, zI Z 290 f)] (zQi Z (po_X2_dropFrom Z a b f w) (wp_X2_dropFrom Z a b f w)) 0 0 := by
  refine zstart (cc := cX2_dropFrom) (maxL := 5) (ret := (some .int)) (by decide) rfl (Nat.le_of_ble_eq_true rfl) ?_
  intro p e s m below meth c ls A hx hb hr hC hlk hnm hX hW hl
  have hml := hC.2.2.1
  have hown : s.vm.findClass RX2 = some m.cls := hC.2.2.2.1
  have hts := hC.2.2.2.2
  have hl : lv_has ls 5 [(0, .ref a), (1, .int (nI w))] := hl
  refine lv_iconst (v := nI 0) hx hb dX2_dropFrom_0 (by decide) ?_
  refine lv_istore_n (lv' := [(2, .int (nI 0)), (0, .ref a), (1, .int (nI w))]) hx hb dX2_dropFrom_1 rfl hl (by decide) rfl (fun ls hl => ?_)
  refine lv_iconst (v := nI 0) hx hb dX2_dropFrom_2 (by decide) ?_
  refine lv_istore_n (lv' := [(3, .int (nI 0)), (2, .int (nI 0)), (0, .ref a), (1, .int (nI w))]) hx hb dX2_dropFrom_3 rfl hl (by decide) rfl (fun ls hl => ?_)
  have loop_4 : ∀ (n : Nat) (g : Nat) (y : Int32) (h : Nat → Int32), (g ≤ 29) → (y = cf f w (g * 10)) → (h = df f w (g * 10)) → (29 - g < n) → ∀ (H : Heap) (locs : List Loc) (ls : Array Slot), zW Z s A [(a, .inr (2, [.ref b])), (b, zI Z 290 h)] H locs → lv_has ls 5 [(3, .int (nI g)), (2, .int y), (0, .ref a), (1, .int (nI w))] → W p l e rm_X2_dropFrom s m ([.ref a, .int (nI w)] : List Value).toArray below meth c H locs 0 0 (MQ below (zQi Z (po_X2_dropFrom Z a b f w) (wp_X2_dropFrom Z a b f w) A) ([.ref a, .int (nI w)] : List Value).toArray s 0 0 A) (F0 m 4 ls []) := by
    intro n
    induction n with
    | zero =>
      intro g y h hg hy9 hh9 hm
      exact absurd hm (Nat.not_lt_zero _)
    | succ n ih =>
      intro g y h hg hy9 hh9 hm H locs ls hW hl
      have ih_4 := ih
      refine lv_iload_n hx hb dX2_dropFrom_4 rfl (lv_at hl 0 rfl) ?_
      refine lv_bipush (v := nI 29) hx hb dX2_dropFrom_5 (by decide) ?_
      refine zn_icmp_ge (tgt := 42) (a := g) (b := 29) hx hb (by omega) (by omega) dX2_dropFrom_7 (by decide) (fun c_7 => ?_) (fun c_7 => ?_)
      · refine lv_iload_n hx hb dX2_dropFrom_42 rfl (lv_at hl 1 rfl) ?_
        exact z_iret hx hb hr hlk hW () (by rw [hy9, show g = 29 by omega]) (by rw [hh9, show g = 29 by omega]) (by omega) (by omega) dX2_dropFrom_43
      · refine lv_iload_n hx hb dX2_dropFrom_10 rfl (lv_at hl 3 rfl) ?_
        refine lv_istore (lv' := [(4, .int (nI w)), (3, .int (nI g)), (2, .int y), (0, .ref a), (1, .int (nI w))]) hx hb dX2_dropFrom_11 hl (by decide) rfl (fun ls hl => ?_)
        have loop_13 : ∀ (n : Nat) (j : Nat) (x : Int32) (k : Nat → Int32), (w ≤ j ∧ j ≤ 10) → (x = cf f w (g * 10 + j)) → (k = df f w (g * 10 + j)) → (10 - j < n) → ∀ (H : Heap) (locs : List Loc) (ls : Array Slot), zW Z s A [(a, .inr (2, [.ref b])), (b, zI Z 290 k)] H locs → lv_has ls 5 [(4, .int (nI j)), (3, .int (nI g)), (2, .int x), (0, .ref a), (1, .int (nI w))] → W p l e rm_X2_dropFrom s m ([.ref a, .int (nI w)] : List Value).toArray below meth c H locs 0 0 (MQ below (zQi Z (po_X2_dropFrom Z a b f w) (wp_X2_dropFrom Z a b f w) A) ([.ref a, .int (nI w)] : List Value).toArray s 0 0 A) (F0 m 13 ls []) := by
          intro n
          induction n with
          | zero =>
            intro j x k hj hx9 hk9 hm
            exact absurd hm (Nat.not_lt_zero _)
          | succ n ih =>
            intro j x k hj hx9 hk9 hm H locs ls hW hl
            have ih_13 := ih
            refine lv_iload hx hb dX2_dropFrom_13 (lv_at hl 0 rfl) ?_
            refine lv_bipush (v := nI 10) hx hb dX2_dropFrom_15 (by decide) ?_
            refine zn_icmp_ge (tgt := 36) (a := j) (b := 10) hx hb (by omega) (by omega) dX2_dropFrom_17 (by decide) (fun c_17 => ?_) (fun c_17 => ?_)
            · refine lv_iinc (v := nI (g + 1)) (lv' := [(3, .int (nI (g + 1))), (4, .int (nI j)), (2, .int x), (0, .ref a), (1, .int (nI w))]) hx hb dX2_dropFrom_36 hl (k := 1) rfl (zinc1 _) (by decide) rfl (fun ls hl => ?_)
              refine lv_goto (tgt := 4) hx hb dX2_dropFrom_39 (by decide) ?_
              have hl : lv_has ls 5 [(3, .int (nI (g + 1))), (2, .int x), (0, .ref a), (1, .int (nI w))] := lv_sub hl [0, 2, 3, 4] rfl
              exact ih_4 (g + 1) x k (by omega) (by rw [hx9, show j = 10 by omega, show g * 10 + 10 = (g + 1) * 10 by omega]) (by rw [hk9, show j = 10 by omega, show g * 10 + 10 = (g + 1) * 10 by omega]) (by omega) _ _ _ hW hl
            · refine lv_iload_n hx hb dX2_dropFrom_20 rfl (lv_at hl 2 rfl) ?_
              refine lv_aload_n hx hb dX2_dropFrom_21 rfl (lv_at hl 3 rfl) ?_
              refine lv_iload_n hx hb dX2_dropFrom_22 rfl (lv_at hl 1 rfl) ?_
              refine lv_iload hx hb dX2_dropFrom_23 (lv_at hl 0 rfl) ?_
              refine zc_i (va_runV (As := [.int (nI g), .int (nI j)]) (rest := [.int x]) hC (c_X2_empty l Z a b k g j (by omega) (by omega) _) (cwV 2 hts gX2_dropFrom_X2_empty rfl rfl rfl (by decide +kernel) ⟨Nat.le_of_ble_eq_true rfl, Nat.le_of_ble_eq_true rfl⟩) (zpreV (ci := 2) (q0 := 0) hX hW rfl rfl [0, 1] rfl (by decide)) rfl rfl hl.1 rfl (lv_room (Nat.le_of_ble_eq_true rfl)) dX2_dropFrom_25 ⟨Nat.le_of_ble_eq_true rfl, Nat.le_of_ble_eq_true rfl⟩) hX hW [0, 1] rfl (by decide) (fun _ => rfl) (fun r_25 u_25 H locs h_25 hW => ?_)
              have hW : zW Z s A [(a, .inr (2, [.ref b])), (b, zI Z 290 (upd k (g * 10 + j) (k (g * 10 + j) + -k (g * 10 + j))))] _ _ := hW
              subst h_25
              refine lv_iadd hx hb dX2_dropFrom_28 ?_
              refine lv_istore_n (lv' := [(2, .int (x + (k (g * 10 + j)))), (4, .int (nI j)), (3, .int (nI g)), (0, .ref a), (1, .int (nI w))]) hx hb dX2_dropFrom_29 rfl hl (by decide) rfl (fun ls hl => ?_)
              refine lv_iinc (v := nI (j + 1)) (lv' := [(4, .int (nI (j + 1))), (2, .int (x + (k (g * 10 + j)))), (3, .int (nI g)), (0, .ref a), (1, .int (nI w))]) hx hb dX2_dropFrom_30 hl (k := 1) rfl (zinc1 _) (by decide) rfl (fun ls hl => ?_)
              refine lv_goto (tgt := 13) hx hb dX2_dropFrom_33 (by decide) ?_
              have hl : lv_has ls 5 [(4, .int (nI (j + 1))), (3, .int (nI g)), (2, .int (x + (k (g * 10 + j)))), (0, .ref a), (1, .int (nI w))] := lv_sub hl [0, 2, 1, 3, 4] rfl
              exact ih_13 (j + 1) (x + (k (g * 10 + j))) (upd k (g * 10 + j) (k (g * 10 + j) + -k (g * 10 + j))) (by omega) (by rw [hx9, hk9, df_at]; exact cf_s (by omega) (by omega)) (by subst hk9; exact df_s (by omega) (by omega) _ (zaddneg _)) (by omega) _ _ _ hW hl
        have hl : lv_has ls 5 [(4, .int (nI w)), (3, .int (nI g)), (2, .int y), (0, .ref a), (1, .int (nI w))] := lv_sub hl [0, 1, 2, 3, 4] rfl
        exact loop_13 _ w y h (by omega) (by rw [hy9, cf_skip f w g w (by omega) (by omega)]) (by rw [hh9, df_skip f w g (Nat.le_refl w) (by omega)]) (Nat.lt_succ_self _) _ _ _ hW hl
  have hl : lv_has ls 5 [(3, .int (nI 0)), (2, .int (nI 0)), (0, .ref a), (1, .int (nI w))] := lv_sub hl [0, 1, 2, 3] rfl
  exact loop_4 _ 0 (nI 0) f (by omega) rfl (df_0 f w).symm (Nat.lt_succ_self _) _ _ _ hW hl
end
section
theorem mw_X2_moveAt_0 : Cond.methodLink RX2 41 Lib.Math.min.name ∈ wsX2_moveAt := by decide +kernel
theorem mw_X2_moveAt_1 : Cond.static Lib.Math.min.name ∈ wsX2_moveAt := by decide +kernel
theorem mw_X2_moveAt_2 : Cond.initialized "java/lang/Math" ∈ wsX2_moveAt := by decide +kernel
theorem mw_X2_moveAt_3 : Cond.code Lib.Math.min.name Lib.Math.min.code 2 (some .int) ∈ wsX2_moveAt := by decide +kernel
abbrev wp_X2_moveAt (Z : zT) (a b a2 b2 : Nat) (f h : Nat → Int32) (g w : Nat) (q : Int32) : Unit → va_W := fun (u : Unit) => [(a, .inr (2, [.ref b])), (b, zI Z 290 (upd f (g * 10 + w) (f (g * 10 + w) + -mn q (f (g * 10 + w))))), (a2, .inr (2, [.ref b2])), (b2, zI Z 290 (upd h (g * 10 + w) (h (g * 10 + w) + mn q (f (g * 10 + w)))))]
abbrev po_X2_moveAt (Z : zT) (a b a2 b2 : Nat) (f h : Nat → Int32) (g w : Nat) (q : Int32) : Int32 → Unit → Prop := fun (r : Int32) (u : Unit) => r = mn q (f (g * 10 + w))
abbrev rm_X2_moveAt : Room := { frames := 1, cells := 0, slots := 0, locals := 23 }
set_option maxHeartbeats 4000000 in
set_option maxRecDepth 100000 in
theorem c_X2_moveAt (l : Launch) (Z : zT) (a b a2 b2 : Nat) (f h : Nat → Int32) (g w : Nat) (q : Int32) (hg : g < 29) (hw : w < 10) : zMet l yX2_moveAt wsX2_moveAt rm_X2_moveAt [.ref a, .ref a2, .int (nI g), .int (nI w), .int q] Z [(a, .inr (2, [.ref b])), (b, zI Z 290 f), (a2, .inr (2, [.ref b2])), (b2, zI Z 290 h)] (zQi Z (po_X2_moveAt Z a b a2 b2 f h g w q) (wp_X2_moveAt Z a b a2 b2 f h g w q)) 0 0 := by
  refine zstart (cc := cX2_moveAt) (maxL := 6) (ret := (some .int)) (by decide) rfl (Nat.le_of_ble_eq_true rfl) ?_
  intro p e s m below meth c ls A hx hb hr hC hlk hnm hX hW hl
  have hml := hC.2.2.1
  have hown : s.vm.findClass RX2 = some m.cls := hC.2.2.2.1
  have hts := hC.2.2.2.2
  have hl : lv_has ls 6 [(0, .ref a), (1, .ref a2), (2, .int (nI g)), (3, .int (nI w)), (4, .int q)] := hl
  refine lv_iload hx hb dX2_moveAt_0 (lv_at hl 4 rfl) ?_
  refine lv_aload_n hx hb dX2_moveAt_2 rfl (lv_at hl 0 rfl) ?_
  refine lv_iload_n hx hb dX2_moveAt_3 rfl (lv_at hl 2 rfl) ?_
  refine lv_iload_n hx hb dX2_moveAt_4 rfl (lv_at hl 3 rfl) ?_
  refine zc_i (va_runV (As := [.int (nI g), .int (nI w)]) (rest := [.int q]) hC (c_X2_at l Z a b f g w (by omega) (by omega) _) (cwV 2 hts gX2_moveAt_X2_at rfl rfl rfl (by decide +kernel) ⟨Nat.le_of_ble_eq_true rfl, Nat.le_of_ble_eq_true rfl⟩) (zpreV (ci := 2) (q0 := 0) hX hW rfl rfl [0, 1] rfl (by decide)) rfl rfl hl.1 rfl (lv_room (Nat.le_of_ble_eq_true rfl)) dX2_moveAt_5 ⟨Nat.le_of_ble_eq_true rfl, Nat.le_of_ble_eq_true rfl⟩) hX hW [0, 1] rfl (by decide) (fun _ => rfl) (fun r_5 u_5 H locs h_5 hW => ?_)
  have hW : zW Z s A [(a, .inr (2, [.ref b])), (b, zI Z 290 f), (a2, .inr (2, [.ref b2])), (b2, zI Z 290 h)] _ _ := hW
  subst h_5
  refine va_mmin hx hb (hml.trans hl.1.symm) hown (hts _ mw_X2_moveAt_0) (hts _ mw_X2_moveAt_1) (hts _ mw_X2_moveAt_2) (hts _ mw_X2_moveAt_3) (Nat.le_of_ble_eq_true rfl) (Nat.le_of_ble_eq_true rfl) (Nat.le_of_ble_eq_true rfl) (Nat.le_of_ble_eq_true rfl) dX2_moveAt_8 ?_
  refine zw_topi (y := (mn q (f (g * 10 + w)))) (rfl) ?_
  refine lv_istore (lv' := [(5, .int (mn q (f (g * 10 + w)))), (0, .ref a), (1, .ref a2), (2, .int (nI g)), (3, .int (nI w)), (4, .int q)]) hx hb dX2_moveAt_11 hl (by decide) rfl (fun ls hl => ?_)
  refine lv_aload_n hx hb dX2_moveAt_13 rfl (lv_at hl 1 rfl) ?_
  refine lv_iload_n hx hb dX2_moveAt_14 rfl (lv_at hl 3 rfl) ?_
  refine lv_iload_n hx hb dX2_moveAt_15 rfl (lv_at hl 4 rfl) ?_
  refine lv_iload hx hb dX2_moveAt_16 (lv_at hl 0 rfl) ?_
  refine lv_ineg hx hb dX2_moveAt_18 ?_
  refine zc_v (va_runV (As := [.int (nI g), .int (nI w), .int (-(mn q (f (g * 10 + w))))]) (rest := []) hC (c_X2_change l Z a b f g w (-(mn q (f (g * 10 + w)))) (by omega) (by omega) _) (cwV 3 hts gX2_moveAt_X2_change rfl rfl rfl (by decide +kernel) ⟨Nat.le_of_ble_eq_true rfl, Nat.le_of_ble_eq_true rfl⟩) (zpreV (ci := 2) (q0 := 0) hX hW rfl rfl [0, 1] rfl (by decide)) rfl rfl hl.1 rfl (lv_room (Nat.le_of_ble_eq_true rfl)) dX2_moveAt_19 ⟨Nat.le_of_ble_eq_true rfl, Nat.le_of_ble_eq_true rfl⟩) hX hW [0, 1] rfl (by decide) (fun _ => rfl) (fun u_19 H locs h_19 hW => ?_)
  have hW : zW Z s A [(a, .inr (2, [.ref b])), (b, zI Z 290 (upd f (g * 10 + w) (f (g * 10 + w) + (-(mn q (f (g * 10 + w))))))), (a2, .inr (2, [.ref b2])), (b2, zI Z 290 h)] _ _ := hW
  refine lv_aload_n hx hb dX2_moveAt_22 rfl (lv_at hl 2 rfl) ?_
  refine lv_iload_n hx hb dX2_moveAt_23 rfl (lv_at hl 3 rfl) ?_
  refine lv_iload_n hx hb dX2_moveAt_24 rfl (lv_at hl 4 rfl) ?_
  refine lv_iload hx hb dX2_moveAt_25 (lv_at hl 0 rfl) ?_
  refine zc_v (va_runV (As := [.int (nI g), .int (nI w), .int (mn q (f (g * 10 + w)))]) (rest := []) hC (c_X2_change l Z a2 b2 h g w (mn q (f (g * 10 + w))) (by omega) (by omega) _) (cwV 3 hts gX2_moveAt_X2_change rfl rfl rfl (by decide +kernel) ⟨Nat.le_of_ble_eq_true rfl, Nat.le_of_ble_eq_true rfl⟩) (zpreV (ci := 2) (q0 := 2) hX hW rfl rfl [2, 3] rfl (by decide)) rfl rfl hl.1 rfl (lv_room (Nat.le_of_ble_eq_true rfl)) dX2_moveAt_27 ⟨Nat.le_of_ble_eq_true rfl, Nat.le_of_ble_eq_true rfl⟩) hX hW [2, 3] rfl (by decide) (fun _ => rfl) (fun u_27 H locs h_27 hW => ?_)
  have hW : zW Z s A [(a, .inr (2, [.ref b])), (b, zI Z 290 (upd f (g * 10 + w) (f (g * 10 + w) + (-(mn q (f (g * 10 + w))))))), (a2, .inr (2, [.ref b2])), (b2, zI Z 290 (upd h (g * 10 + w) (h (g * 10 + w) + (mn q (f (g * 10 + w))))))] _ _ := hW
  refine lv_iload hx hb dX2_moveAt_30 (lv_at hl 0 rfl) ?_
  exact z_iret hx hb hr hlk hW () (rfl) (rfl) (by omega) (by omega) dX2_moveAt_32
end
section
abbrev wp_X2_moveLeastWorn (Z : zT) (a b a2 b2 : Nat) (f h : Nat → Int32) (g : Nat) (q : Int32) : Unit → va_W := fun (u : Unit) => [(a, .inr (2, [.ref b])), (b, zI Z 290 ((mvS oU g q f h 10).2.2.1)), (a2, .inr (2, [.ref b2])), (b2, zI Z 290 ((mvS oU g q f h 10).2.2.2))]
abbrev po_X2_moveLeastWorn (Z : zT) (a b a2 b2 : Nat) (f h : Nat → Int32) (g : Nat) (q : Int32) : Int32 → Unit → Prop := fun (r : Int32) (u : Unit) => r = (mvS oU g q f h 10).2.1
abbrev rm_X2_moveLeastWorn : Room := { frames := 2, cells := 0, slots := 0, locals := 48 }
set_option maxHeartbeats 4000000 in
set_option maxRecDepth 100000 in
theorem c_X2_moveLeastWorn (l : Launch) (Z : zT) (a b a2 b2 : Nat) (f h : Nat → Int32) (g : Nat) (q : Int32) (hg : g < 29) : zMet l yX2_moveLeastWorn wsX2_moveLeastWorn rm_X2_moveLeastWorn [.ref a, .ref a2, .int (nI g), .int q] Z [(a, .inr (2, [.ref b])), (b, zI Z 290 f), (a2, .inr (2, [.ref b2])), (b2, zI Z 290 h)] (zQi Z (po_X2_moveLeastWorn Z a b a2 b2 f h g q) (wp_X2_moveLeastWorn Z a b a2 b2 f h g q)) 0 0 := by
  refine zstart (cc := cX2_moveLeastWorn) (maxL := 8) (ret := (some .int)) (by decide) rfl (Nat.le_of_ble_eq_true rfl) ?_
  intro p e s m below meth c ls A hx hb hr hC hlk hnm hX hW hl
  have hml := hC.2.2.1
  have hown : s.vm.findClass RX2 = some m.cls := hC.2.2.2.1
  have hts := hC.2.2.2.2
  have hl : lv_has ls 8 [(0, .ref a), (1, .ref a2), (2, .int (nI g)), (3, .int q)] := hl
  refine lv_iconst (v := nI 0) hx hb dX2_moveLeastWorn_0 (by decide) ?_
  refine lv_istore (lv' := [(4, .int (nI 0)), (0, .ref a), (1, .ref a2), (2, .int (nI g)), (3, .int q)]) hx hb dX2_moveLeastWorn_1 hl (by decide) rfl (fun ls hl => ?_)
  refine lv_iload_n hx hb dX2_moveLeastWorn_3 rfl (lv_at hl 4 rfl) ?_
  refine lv_istore (lv' := [(5, .int q), (4, .int (nI 0)), (0, .ref a), (1, .ref a2), (2, .int (nI g)), (3, .int q)]) hx hb dX2_moveLeastWorn_4 hl (by decide) rfl (fun ls hl => ?_)
  refine lv_iconst (v := nI 0) hx hb dX2_moveLeastWorn_6 (by decide) ?_
  refine lv_istore (lv' := [(6, .int (nI 0)), (5, .int q), (4, .int (nI 0)), (0, .ref a), (1, .ref a2), (2, .int (nI g)), (3, .int q)]) hx hb dX2_moveLeastWorn_7 hl (by decide) rfl (fun ls hl => ?_)
  have loop_9 : ∀ (n : Nat) (j : Nat), (j ≤ 10) → (10 - j < n) → ∀ (H : Heap) (locs : List Loc) (ls : Array Slot), zW Z s A [(a, .inr (2, [.ref b])), (b, zI Z 290 ((mvS oU g q f h j).2.2.1)), (a2, .inr (2, [.ref b2])), (b2, zI Z 290 ((mvS oU g q f h j).2.2.2))] H locs → lv_has ls 8 [(6, .int (nI j)), (5, .int ((mvS oU g q f h j).1)), (4, .int ((mvS oU g q f h j).2.1)), (0, .ref a), (1, .ref a2), (2, .int (nI g)), (3, .int q)] → W p l e rm_X2_moveLeastWorn s m ([.ref a, .ref a2, .int (nI g), .int q] : List Value).toArray below meth c H locs 0 0 (MQ below (zQi Z (po_X2_moveLeastWorn Z a b a2 b2 f h g q) (wp_X2_moveLeastWorn Z a b a2 b2 f h g q) A) ([.ref a, .ref a2, .int (nI g), .int q] : List Value).toArray s 0 0 A) (F0 m 9 ls []) := by
    intro n
    induction n with
    | zero =>
      intro j hj hm
      exact absurd hm (Nat.not_lt_zero _)
    | succ n ih =>
      intro j hj hm H locs ls hW hl
      have ih_9 := ih
      refine lv_iload hx hb dX2_moveLeastWorn_9 (lv_at hl 0 rfl) ?_
      refine lv_bipush (v := nI 10) hx hb dX2_moveLeastWorn_11 (by decide) ?_
      refine zn_icmp_ge (tgt := 51) (a := j) (b := 10) hx hb (by omega) (by omega) dX2_moveLeastWorn_13 (by decide) (fun c_13 => ?_) (fun c_13 => ?_)
      · refine lv_iload hx hb dX2_moveLeastWorn_51 (lv_at hl 2 rfl) ?_
        exact z_iret hx hb hr hlk hW () (by rw [show j = 10 by omega]) (by rw [show j = 10 by omega]) (by omega) (by omega) dX2_moveLeastWorn_53
      · refine lv_aload_n hx hb dX2_moveLeastWorn_16 rfl (lv_at hl 3 rfl) ?_
        refine lv_aload_n hx hb dX2_moveLeastWorn_17 rfl (lv_at hl 4 rfl) ?_
        refine lv_iload_n hx hb dX2_moveLeastWorn_18 rfl (lv_at hl 5 rfl) ?_
        refine lv_iload hx hb dX2_moveLeastWorn_19 (lv_at hl 0 rfl) ?_
        refine lv_iload hx hb dX2_moveLeastWorn_21 (lv_at hl 1 rfl) ?_
        refine zc_i (va_runV (As := [.ref a2, .int (nI g), .int (nI j), .int ((mvS oU g q f h j).1)]) (rest := []) hC (c_X2_moveAt l Z a b a2 b2 ((mvS oU g q f h j).2.2.1) ((mvS oU g q f h j).2.2.2) g j ((mvS oU g q f h j).1) (by omega) (by omega) _) (cwV 4 hts gX2_moveLeastWorn_X2_moveAt rfl rfl rfl (by decide +kernel) ⟨Nat.le_of_ble_eq_true rfl, Nat.le_of_ble_eq_true rfl⟩) (zpreV (ci := 2) (q0 := 0) hX hW rfl rfl [0, 1, 2, 3] rfl (by decide)) rfl rfl hl.1 rfl (lv_room (Nat.le_of_ble_eq_true rfl)) dX2_moveLeastWorn_23 ⟨Nat.le_of_ble_eq_true rfl, Nat.le_of_ble_eq_true rfl⟩) hX hW [0, 1, 2, 3] rfl (by decide) (fun _ => rfl) (fun r_23 u_23 H locs h_23 hW => ?_)
        have hW : zW Z s A [(a, .inr (2, [.ref b])), (b, zI Z 290 (upd ((mvS oU g q f h j).2.2.1) (g * 10 + j) (((mvS oU g q f h j).2.2.1) (g * 10 + j) + -mn ((mvS oU g q f h j).1) (((mvS oU g q f h j).2.2.1) (g * 10 + j))))), (a2, .inr (2, [.ref b2])), (b2, zI Z 290 (upd ((mvS oU g q f h j).2.2.2) (g * 10 + j) (((mvS oU g q f h j).2.2.2) (g * 10 + j) + mn ((mvS oU g q f h j).1) (((mvS oU g q f h j).2.2.1) (g * 10 + j)))))] _ _ := hW
        subst h_23
        refine lv_istore (lv' := [(7, .int (mn ((mvS oU g q f h j).1) (((mvS oU g q f h j).2.2.1) (g * 10 + j)))), (6, .int (nI j)), (5, .int ((mvS oU g q f h j).1)), (4, .int ((mvS oU g q f h j).2.1)), (0, .ref a), (1, .ref a2), (2, .int (nI g)), (3, .int q)]) hx hb dX2_moveLeastWorn_26 hl (by decide) rfl (fun ls hl => ?_)
        refine lv_iload hx hb dX2_moveLeastWorn_28 (lv_at hl 2 rfl) ?_
        refine lv_iload hx hb dX2_moveLeastWorn_30 (lv_at hl 0 rfl) ?_
        refine lv_isub hx hb dX2_moveLeastWorn_32 ?_
        refine lv_istore (lv' := [(5, .int (((mvS oU g q f h j).1) - (mn ((mvS oU g q f h j).1) (((mvS oU g q f h j).2.2.1) (g * 10 + j))))), (7, .int (mn ((mvS oU g q f h j).1) (((mvS oU g q f h j).2.2.1) (g * 10 + j)))), (6, .int (nI j)), (4, .int ((mvS oU g q f h j).2.1)), (0, .ref a), (1, .ref a2), (2, .int (nI g)), (3, .int q)]) hx hb dX2_moveLeastWorn_33 hl (by decide) rfl (fun ls hl => ?_)
        refine lv_iload hx hb dX2_moveLeastWorn_35 (lv_at hl 3 rfl) ?_
        refine lv_iload hx hb dX2_moveLeastWorn_37 (lv_at hl 1 rfl) ?_
        refine lv_iload hx hb dX2_moveLeastWorn_39 (lv_at hl 2 rfl) ?_
        refine lv_imul hx hb dX2_moveLeastWorn_41 ?_
        refine lv_iadd hx hb dX2_moveLeastWorn_42 ?_
        refine lv_istore (lv' := [(4, .int (((mvS oU g q f h j).2.1) + ((mn ((mvS oU g q f h j).1) (((mvS oU g q f h j).2.2.1) (g * 10 + j))) * (nI j)))), (5, .int (((mvS oU g q f h j).1) - (mn ((mvS oU g q f h j).1) (((mvS oU g q f h j).2.2.1) (g * 10 + j))))), (7, .int (mn ((mvS oU g q f h j).1) (((mvS oU g q f h j).2.2.1) (g * 10 + j)))), (6, .int (nI j)), (0, .ref a), (1, .ref a2), (2, .int (nI g)), (3, .int q)]) hx hb dX2_moveLeastWorn_43 hl (by decide) rfl (fun ls hl => ?_)
        refine lv_iinc (v := nI (j + 1)) (lv' := [(6, .int (nI (j + 1))), (4, .int (((mvS oU g q f h j).2.1) + ((mn ((mvS oU g q f h j).1) (((mvS oU g q f h j).2.2.1) (g * 10 + j))) * (nI j)))), (5, .int (((mvS oU g q f h j).1) - (mn ((mvS oU g q f h j).1) (((mvS oU g q f h j).2.2.1) (g * 10 + j))))), (7, .int (mn ((mvS oU g q f h j).1) (((mvS oU g q f h j).2.2.1) (g * 10 + j)))), (0, .ref a), (1, .ref a2), (2, .int (nI g)), (3, .int q)]) hx hb dX2_moveLeastWorn_45 hl (k := 3) rfl (zinc1 _) (by decide) rfl (fun ls hl => ?_)
        refine lv_goto (tgt := 9) hx hb dX2_moveLeastWorn_48 (by decide) ?_
        have hl : lv_has ls 8 [(6, .int (nI (j + 1))), (5, .int ((mvS oU g q f h (j + 1)).1)), (4, .int ((mvS oU g q f h (j + 1)).2.1)), (0, .ref a), (1, .ref a2), (2, .int (nI g)), (3, .int q)] := lv_sub hl [0, 2, 1, 4, 5, 6, 7] rfl
        have hW : zW Z s A [(a, .inr (2, [.ref b])), (b, zI Z 290 ((mvS oU g q f h (j + 1)).2.2.1)), (a2, .inr (2, [.ref b2])), (b2, zI Z 290 ((mvS oU g q f h (j + 1)).2.2.2))] _ _ := hW
        exact ih_9 (j + 1) (by omega) (by omega) _ _ _ hW hl
  have hl : lv_has ls 8 [(6, .int (nI 0)), (5, .int ((mvS oU g q f h 0).1)), (4, .int ((mvS oU g q f h 0).2.1)), (0, .ref a), (1, .ref a2), (2, .int (nI g)), (3, .int q)] := lv_sub hl [0, 1, 2, 3, 4, 5, 6] rfl
  have hW : zW Z s A [(a, .inr (2, [.ref b])), (b, zI Z 290 ((mvS oU g q f h 0).2.2.1)), (a2, .inr (2, [.ref b2])), (b2, zI Z 290 ((mvS oU g q f h 0).2.2.2))] _ _ := hW
  exact loop_9 _ 0 (by omega) (Nat.lt_succ_self _) _ _ _ hW hl
end
section
abbrev wp_X2_moveMostWorn (Z : zT) (a b a2 b2 : Nat) (f h : Nat → Int32) (g : Nat) (q : Int32) : Unit → va_W := fun (u : Unit) => [(a, .inr (2, [.ref b])), (b, zI Z 290 ((mvS oD g q f h 10).2.2.1)), (a2, .inr (2, [.ref b2])), (b2, zI Z 290 ((mvS oD g q f h 10).2.2.2))]
abbrev po_X2_moveMostWorn (Z : zT) (a b a2 b2 : Nat) (f h : Nat → Int32) (g : Nat) (q : Int32) : Int32 → Unit → Prop := fun (r : Int32) (u : Unit) => r = (mvS oD g q f h 10).2.1
abbrev rm_X2_moveMostWorn : Room := { frames := 2, cells := 0, slots := 0, locals := 48 }
set_option maxHeartbeats 4000000 in
set_option maxRecDepth 100000 in
theorem c_X2_moveMostWorn (l : Launch) (Z : zT) (a b a2 b2 : Nat) (f h : Nat → Int32) (g : Nat) (q : Int32) (hg : g < 29) : zMet l yX2_moveMostWorn wsX2_moveMostWorn rm_X2_moveMostWorn [.ref a, .ref a2, .int (nI g), .int q] Z [(a, .inr (2, [.ref b])), (b, zI Z 290 f), (a2, .inr (2, [.ref b2])), (b2, zI Z 290 h)] (zQi Z (po_X2_moveMostWorn Z a b a2 b2 f h g q) (wp_X2_moveMostWorn Z a b a2 b2 f h g q)) 0 0 := by
  refine zstart (cc := cX2_moveMostWorn) (maxL := 8) (ret := (some .int)) (by decide) rfl (Nat.le_of_ble_eq_true rfl) ?_
  intro p e s m below meth c ls A hx hb hr hC hlk hnm hX hW hl
  have hml := hC.2.2.1
  have hown : s.vm.findClass RX2 = some m.cls := hC.2.2.2.1
  have hts := hC.2.2.2.2
  have hl : lv_has ls 8 [(0, .ref a), (1, .ref a2), (2, .int (nI g)), (3, .int q)] := hl
  refine lv_iconst (v := nI 0) hx hb dX2_moveMostWorn_0 (by decide) ?_
  refine lv_istore (lv' := [(4, .int (nI 0)), (0, .ref a), (1, .ref a2), (2, .int (nI g)), (3, .int q)]) hx hb dX2_moveMostWorn_1 hl (by decide) rfl (fun ls hl => ?_)
  refine lv_iload_n hx hb dX2_moveMostWorn_3 rfl (lv_at hl 4 rfl) ?_
  refine lv_istore (lv' := [(5, .int q), (4, .int (nI 0)), (0, .ref a), (1, .ref a2), (2, .int (nI g)), (3, .int q)]) hx hb dX2_moveMostWorn_4 hl (by decide) rfl (fun ls hl => ?_)
  refine lv_bipush (v := nI 9) hx hb dX2_moveMostWorn_6 (by decide) ?_
  refine lv_istore (lv' := [(6, .int (nI 9)), (5, .int q), (4, .int (nI 0)), (0, .ref a), (1, .ref a2), (2, .int (nI g)), (3, .int q)]) hx hb dX2_moveMostWorn_8 hl (by decide) rfl (fun ls hl => ?_)
  have loop_10 : ∀ (n : Nat) (j : Nat), (j ≤ 10) → (10 - j < n) → ∀ (H : Heap) (locs : List Loc) (ls : Array Slot), zW Z s A [(a, .inr (2, [.ref b])), (b, zI Z 290 ((mvS oD g q f h j).2.2.1)), (a2, .inr (2, [.ref b2])), (b2, zI Z 290 ((mvS oD g q f h j).2.2.2))] H locs → lv_has ls 8 [(6, .int (w9 j)), (5, .int ((mvS oD g q f h j).1)), (4, .int ((mvS oD g q f h j).2.1)), (0, .ref a), (1, .ref a2), (2, .int (nI g)), (3, .int q)] → W p l e rm_X2_moveMostWorn s m ([.ref a, .ref a2, .int (nI g), .int q] : List Value).toArray below meth c H locs 0 0 (MQ below (zQi Z (po_X2_moveMostWorn Z a b a2 b2 f h g q) (wp_X2_moveMostWorn Z a b a2 b2 f h g q) A) ([.ref a, .ref a2, .int (nI g), .int q] : List Value).toArray s 0 0 A) (F0 m 10 ls []) := by
    intro n
    induction n with
    | zero =>
      intro j hj hm
      exact absurd hm (Nat.not_lt_zero _)
    | succ n ih =>
      intro j hj hm H locs ls hW hl
      have ih_10 := ih
      rcases Nat.lt_or_ge j 10 with hj10 | hj10
      · rw [w9_lt hj10] at hl
        have hl : lv_has ls 8 [(6, .int (nI (9 - j))), (5, .int ((mvS oD g q f h j).1)), (4, .int ((mvS oD g q f h j).2.1)), (0, .ref a), (1, .ref a2), (2, .int (nI g)), (3, .int q)] := hl
        refine lv_iload hx hb dX2_moveMostWorn_10 (lv_at hl 0 rfl) ?_
        refine zn_if_lt (tgt := 50) (a := (9 - j)) hx hb (by omega) dX2_moveMostWorn_12 (by decide) ?_
        refine lv_aload_n hx hb dX2_moveMostWorn_15 rfl (lv_at hl 3 rfl) ?_
        refine lv_aload_n hx hb dX2_moveMostWorn_16 rfl (lv_at hl 4 rfl) ?_
        refine lv_iload_n hx hb dX2_moveMostWorn_17 rfl (lv_at hl 5 rfl) ?_
        refine lv_iload hx hb dX2_moveMostWorn_18 (lv_at hl 0 rfl) ?_
        refine lv_iload hx hb dX2_moveMostWorn_20 (lv_at hl 1 rfl) ?_
        refine zc_i (va_runV (As := [.ref a2, .int (nI g), .int (nI (9 - j)), .int ((mvS oD g q f h j).1)]) (rest := []) hC (c_X2_moveAt l Z a b a2 b2 ((mvS oD g q f h j).2.2.1) ((mvS oD g q f h j).2.2.2) g (9 - j) ((mvS oD g q f h j).1) (by omega) (by omega) _) (cwV 4 hts gX2_moveMostWorn_X2_moveAt rfl rfl rfl (by decide +kernel) ⟨Nat.le_of_ble_eq_true rfl, Nat.le_of_ble_eq_true rfl⟩) (zpreV (ci := 2) (q0 := 0) hX hW rfl rfl [0, 1, 2, 3] rfl (by decide)) rfl rfl hl.1 rfl (lv_room (Nat.le_of_ble_eq_true rfl)) dX2_moveMostWorn_22 ⟨Nat.le_of_ble_eq_true rfl, Nat.le_of_ble_eq_true rfl⟩) hX hW [0, 1, 2, 3] rfl (by decide) (fun _ => rfl) (fun r_22 u_22 H locs h_22 hW => ?_)
        have hW : zW Z s A [(a, .inr (2, [.ref b])), (b, zI Z 290 (upd ((mvS oD g q f h j).2.2.1) (g * 10 + (9 - j)) (((mvS oD g q f h j).2.2.1) (g * 10 + (9 - j)) + -mn ((mvS oD g q f h j).1) (((mvS oD g q f h j).2.2.1) (g * 10 + (9 - j)))))), (a2, .inr (2, [.ref b2])), (b2, zI Z 290 (upd ((mvS oD g q f h j).2.2.2) (g * 10 + (9 - j)) (((mvS oD g q f h j).2.2.2) (g * 10 + (9 - j)) + mn ((mvS oD g q f h j).1) (((mvS oD g q f h j).2.2.1) (g * 10 + (9 - j))))))] _ _ := hW
        subst h_22
        refine lv_istore (lv' := [(7, .int (mn ((mvS oD g q f h j).1) (((mvS oD g q f h j).2.2.1) (g * 10 + (9 - j))))), (6, .int (nI (9 - j))), (5, .int ((mvS oD g q f h j).1)), (4, .int ((mvS oD g q f h j).2.1)), (0, .ref a), (1, .ref a2), (2, .int (nI g)), (3, .int q)]) hx hb dX2_moveMostWorn_25 hl (by decide) rfl (fun ls hl => ?_)
        refine lv_iload hx hb dX2_moveMostWorn_27 (lv_at hl 2 rfl) ?_
        refine lv_iload hx hb dX2_moveMostWorn_29 (lv_at hl 0 rfl) ?_
        refine lv_isub hx hb dX2_moveMostWorn_31 ?_
        refine lv_istore (lv' := [(5, .int (((mvS oD g q f h j).1) - (mn ((mvS oD g q f h j).1) (((mvS oD g q f h j).2.2.1) (g * 10 + (9 - j)))))), (7, .int (mn ((mvS oD g q f h j).1) (((mvS oD g q f h j).2.2.1) (g * 10 + (9 - j))))), (6, .int (nI (9 - j))), (4, .int ((mvS oD g q f h j).2.1)), (0, .ref a), (1, .ref a2), (2, .int (nI g)), (3, .int q)]) hx hb dX2_moveMostWorn_32 hl (by decide) rfl (fun ls hl => ?_)
        refine lv_iload hx hb dX2_moveMostWorn_34 (lv_at hl 3 rfl) ?_
        refine lv_iload hx hb dX2_moveMostWorn_36 (lv_at hl 1 rfl) ?_
        refine lv_iload hx hb dX2_moveMostWorn_38 (lv_at hl 2 rfl) ?_
        refine lv_imul hx hb dX2_moveMostWorn_40 ?_
        refine lv_iadd hx hb dX2_moveMostWorn_41 ?_
        refine lv_istore (lv' := [(4, .int (((mvS oD g q f h j).2.1) + ((mn ((mvS oD g q f h j).1) (((mvS oD g q f h j).2.2.1) (g * 10 + (9 - j)))) * (nI (9 - j))))), (5, .int (((mvS oD g q f h j).1) - (mn ((mvS oD g q f h j).1) (((mvS oD g q f h j).2.2.1) (g * 10 + (9 - j)))))), (7, .int (mn ((mvS oD g q f h j).1) (((mvS oD g q f h j).2.2.1) (g * 10 + (9 - j))))), (6, .int (nI (9 - j))), (0, .ref a), (1, .ref a2), (2, .int (nI g)), (3, .int q)]) hx hb dX2_moveMostWorn_42 hl (by decide) rfl (fun ls hl => ?_)
        refine lv_iinc (v := w9 (j + 1)) (lv' := [(6, .int (w9 (j + 1))), (4, .int (((mvS oD g q f h j).2.1) + ((mn ((mvS oD g q f h j).1) (((mvS oD g q f h j).2.2.1) (g * 10 + (9 - j)))) * (nI (9 - j))))), (5, .int (((mvS oD g q f h j).1) - (mn ((mvS oD g q f h j).1) (((mvS oD g q f h j).2.2.1) (g * 10 + (9 - j)))))), (7, .int (mn ((mvS oD g q f h j).1) (((mvS oD g q f h j).2.2.1) (g * 10 + (9 - j))))), (0, .ref a), (1, .ref a2), (2, .int (nI g)), (3, .int q)]) hx hb dX2_moveMostWorn_44 hl (k := 3) rfl (w9_s hj10) (by decide) rfl (fun ls hl => ?_)
        refine lv_goto (tgt := 10) hx hb dX2_moveMostWorn_47 (by decide) ?_
        have hl : lv_has ls 8 [(6, .int (w9 (j + 1))), (5, .int ((mvS oD g q f h (j + 1)).1)), (4, .int ((mvS oD g q f h (j + 1)).2.1)), (0, .ref a), (1, .ref a2), (2, .int (nI g)), (3, .int q)] := lv_sub hl [0, 2, 1, 4, 5, 6, 7] rfl
        have hW : zW Z s A [(a, .inr (2, [.ref b])), (b, zI Z 290 ((mvS oD g q f h (j + 1)).2.2.1)), (a2, .inr (2, [.ref b2])), (b2, zI Z 290 ((mvS oD g q f h (j + 1)).2.2.2))] _ _ := hW
        exact ih_10 (j + 1) (by omega) (by omega) _ _ _ hW hl
      · rw [w9_ge hj10] at hl
        have hl : lv_has ls 8 [(6, .int (-1)), (5, .int ((mvS oD g q f h j).1)), (4, .int ((mvS oD g q f h j).2.1)), (0, .ref a), (1, .ref a2), (2, .int (nI g)), (3, .int q)] := hl
        refine lv_iload hx hb dX2_moveMostWorn_10 (lv_at hl 0 rfl) ?_
        refine lv_if_lt (tgt := 50) hx hb dX2_moveMostWorn_12 (by decide) (fun c_12 => ?_) (fun c_12 => absurd (by decide) c_12)
        refine lv_iload hx hb dX2_moveMostWorn_50 (lv_at hl 2 rfl) ?_
        exact z_iret hx hb hr hlk hW () (by rw [show j = 10 by omega]) (by rw [show j = 10 by omega]) (by omega) (by omega) dX2_moveMostWorn_52
  have hl : lv_has ls 8 [(6, .int (w9 0)), (5, .int ((mvS oD g q f h 0).1)), (4, .int ((mvS oD g q f h 0).2.1)), (0, .ref a), (1, .ref a2), (2, .int (nI g)), (3, .int q)] := lv_sub hl [0, 1, 2, 3, 4, 5, 6] rfl
  have hW : zW Z s A [(a, .inr (2, [.ref b])), (b, zI Z 290 ((mvS oD g q f h 0).2.2.1)), (a2, .inr (2, [.ref b2])), (b2, zI Z 290 ((mvS oD g q f h 0).2.2.2))] _ _ := hW
  exact loop_10 _ 0 (by omega) (Nat.lt_succ_self _) _ _ _ hW hl
end
section
abbrev wp_X2_wearBy (Z : zT) (a b : Nat) (f : Nat → Int32) (mo : Nat) : Unit → va_W := fun (u : Unit) => [(a, .inr (2, [.ref b])), (b, zI Z 290 ((wbO mo f 29).2))]
abbrev po_X2_wearBy (Z : zT) (a b : Nat) (f : Nat → Int32) (mo : Nat) : Int32 → Unit → Prop := fun (r : Int32) (u : Unit) => r = (wbO mo f 29).1
abbrev rm_X2_wearBy : Room := { frames := 2, cells := 0, slots := 0, locals := 46 }
set_option maxHeartbeats 4000000 in
set_option maxRecDepth 100000 in
theorem c_X2_wearBy (l : Launch) (Z : zT) (a b : Nat) (f : Nat → Int32) (mo : Nat) (hm9 : mo < 1000) : zMet l yX2_wearBy wsX2_wearBy rm_X2_wearBy [.ref a, .int (nI mo)] Z [(a, .inr (2, [.ref b])), (b, zI Z 290 f)] (zQi Z (po_X2_wearBy Z a b f mo) (wp_X2_wearBy Z a b f mo)) 0 0 := by
  refine zstart (cc := cX2_wearBy) (maxL := 6) (ret := (some .int)) (by decide) rfl (Nat.le_of_ble_eq_true rfl) ?_
  intro p e s m below meth c ls A hx hb hr hC hlk hnm hX hW hl
  have hml := hC.2.2.1
  have hown : s.vm.findClass RX2 = some m.cls := hC.2.2.2.1
  have hts := hC.2.2.2.2
  have hl : lv_has ls 6 [(0, .ref a), (1, .int (nI mo))] := hl
  refine lv_iconst (v := nI 0) hx hb dX2_wearBy_0 (by decide) ?_
  refine lv_istore_n (lv' := [(2, .int (nI 0)), (0, .ref a), (1, .int (nI mo))]) hx hb dX2_wearBy_1 rfl hl (by decide) rfl (fun ls hl => ?_)
  refine lv_iconst (v := nI 0) hx hb dX2_wearBy_2 (by decide) ?_
  refine lv_istore_n (lv' := [(3, .int (nI 0)), (2, .int (nI 0)), (0, .ref a), (1, .int (nI mo))]) hx hb dX2_wearBy_3 rfl hl (by decide) rfl (fun ls hl => ?_)
  have loop_4 : ∀ (n : Nat) (g : Nat), (g ≤ 29) → (29 - g < n) → ∀ (H : Heap) (locs : List Loc) (ls : Array Slot), zW Z s A [(a, .inr (2, [.ref b])), (b, zI Z 290 ((wbO mo f g).2))] H locs → lv_has ls 6 [(3, .int (nI g)), (2, .int ((wbO mo f g).1)), (0, .ref a), (1, .int (nI mo))] → W p l e rm_X2_wearBy s m ([.ref a, .int (nI mo)] : List Value).toArray below meth c H locs 0 0 (MQ below (zQi Z (po_X2_wearBy Z a b f mo) (wp_X2_wearBy Z a b f mo) A) ([.ref a, .int (nI mo)] : List Value).toArray s 0 0 A) (F0 m 4 ls []) := by
    intro n
    induction n with
    | zero =>
      intro g hg hm
      exact absurd hm (Nat.not_lt_zero _)
    | succ n ih =>
      intro g hg hm H locs ls hW hl
      have ih_4 := ih
      refine lv_iload_n hx hb dX2_wearBy_4 rfl (lv_at hl 0 rfl) ?_
      refine lv_bipush (v := nI 29) hx hb dX2_wearBy_5 (by decide) ?_
      refine zn_icmp_ge (tgt := 68) (a := g) (b := 29) hx hb (by omega) (by omega) dX2_wearBy_7 (by decide) (fun c_7 => ?_) (fun c_7 => ?_)
      · refine lv_iload_n hx hb dX2_wearBy_68 rfl (lv_at hl 1 rfl) ?_
        exact z_iret hx hb hr hlk hW () (by rw [show g = 29 by omega]) (by rw [show g = 29 by omega]) (by omega) (by omega) dX2_wearBy_69
      · refine lv_bipush (v := nI 9) hx hb dX2_wearBy_10 (by decide) ?_
        refine lv_istore (lv' := [(4, .int (nI 9)), (3, .int (nI g)), (2, .int ((wbO mo f g).1)), (0, .ref a), (1, .int (nI mo))]) hx hb dX2_wearBy_12 hl (by decide) rfl (fun ls hl => ?_)
        have loop_14 : ∀ (n : Nat) (j : Nat) (x : Int32) (k : Nat → Int32), (j ≤ 10) → (x = (wbI mo g (wbO mo f g) j).1) → (k = (wbI mo g (wbO mo f g) j).2) → (10 - j < n) → ∀ (H : Heap) (locs : List Loc) (ls : Array Slot), zW Z s A [(a, .inr (2, [.ref b])), (b, zI Z 290 k)] H locs → lv_has ls 6 [(4, .int (w9 j)), (3, .int (nI g)), (2, .int x), (0, .ref a), (1, .int (nI mo))] → W p l e rm_X2_wearBy s m ([.ref a, .int (nI mo)] : List Value).toArray below meth c H locs 0 0 (MQ below (zQi Z (po_X2_wearBy Z a b f mo) (wp_X2_wearBy Z a b f mo) A) ([.ref a, .int (nI mo)] : List Value).toArray s 0 0 A) (F0 m 14 ls []) := by
          intro n
          induction n with
          | zero =>
            intro j x k hj hx9 hk9 hm
            exact absurd hm (Nat.not_lt_zero _)
          | succ n ih =>
            intro j x k hj hx9 hk9 hm H locs ls hW hl
            have ih_14 := ih
            rcases Nat.lt_or_ge j 10 with hj10 | hj10
            · rw [w9_lt hj10] at hl
              have hl : lv_has ls 6 [(4, .int (nI (9 - j))), (3, .int (nI g)), (2, .int x), (0, .ref a), (1, .int (nI mo))] := hl
              refine lv_iload hx hb dX2_wearBy_14 (lv_at hl 0 rfl) ?_
              refine zn_if_lt (tgt := 62) (a := (9 - j)) hx hb (by omega) dX2_wearBy_16 (by decide) ?_
              refine lv_aload_n hx hb dX2_wearBy_19 rfl (lv_at hl 3 rfl) ?_
              refine lv_iload_n hx hb dX2_wearBy_20 rfl (lv_at hl 1 rfl) ?_
              refine lv_iload hx hb dX2_wearBy_21 (lv_at hl 0 rfl) ?_
              refine zc_i (va_runV (As := [.int (nI g), .int (nI (9 - j))]) (rest := []) hC (c_X2_empty l Z a b k g (9 - j) (by omega) (by omega) _) (cwV 2 hts gX2_wearBy_X2_empty rfl rfl rfl (by decide +kernel) ⟨Nat.le_of_ble_eq_true rfl, Nat.le_of_ble_eq_true rfl⟩) (zpreV (ci := 2) (q0 := 0) hX hW rfl rfl [0, 1] rfl (by decide)) rfl rfl hl.1 rfl (lv_room (Nat.le_of_ble_eq_true rfl)) dX2_wearBy_23 ⟨Nat.le_of_ble_eq_true rfl, Nat.le_of_ble_eq_true rfl⟩) hX hW [0, 1] rfl (by decide) (fun _ => rfl) (fun r_23 u_23 H locs h_23 hW => ?_)
              have hW : zW Z s A [(a, .inr (2, [.ref b])), (b, zI Z 290 (upd k (g * 10 + (9 - j)) (k (g * 10 + (9 - j)) + -k (g * 10 + (9 - j)))))] _ _ := hW
              subst h_23
              refine lv_istore (lv' := [(5, .int (k (g * 10 + (9 - j)))), (4, .int (nI (9 - j))), (3, .int (nI g)), (2, .int x), (0, .ref a), (1, .int (nI mo))]) hx hb dX2_wearBy_26 hl (by decide) rfl (fun ls hl => ?_)
              refine lv_iload hx hb dX2_wearBy_28 (lv_at hl 1 rfl) ?_
              refine lv_iload_n hx hb dX2_wearBy_30 rfl (lv_at hl 5 rfl) ?_
              refine lv_iadd hx hb dX2_wearBy_31 ?_
              refine zw_topi (nI_add _ _) ?_
              refine lv_bipush (v := nI 10) hx hb dX2_wearBy_32 (by decide) ?_
              refine zn_icmp_ge (tgt := 51) (a := ((9 - j) + mo)) (b := 10) hx hb (by omega) (by omega) dX2_wearBy_34 (by decide) (fun c_34 => ?_) (fun c_34 => ?_)
              · have c_34 : ¬ 9 - j + mo < 10 := by omega
                refine lv_iload_n hx hb dX2_wearBy_51 rfl (lv_at hl 3 rfl) ?_
                refine lv_iload hx hb dX2_wearBy_52 (lv_at hl 0 rfl) ?_
                refine lv_iadd hx hb dX2_wearBy_54 ?_
                refine lv_istore_n (lv' := [(2, .int (x + (k (g * 10 + (9 - j))))), (5, .int (k (g * 10 + (9 - j)))), (4, .int (nI (9 - j))), (3, .int (nI g)), (0, .ref a), (1, .int (nI mo))]) hx hb dX2_wearBy_55 rfl hl (by decide) rfl (fun ls hl => ?_)
                refine lv_iinc (v := w9 (j + 1)) (lv' := [(4, .int (w9 (j + 1))), (2, .int (x + (k (g * 10 + (9 - j))))), (5, .int (k (g * 10 + (9 - j)))), (3, .int (nI g)), (0, .ref a), (1, .int (nI mo))]) hx hb dX2_wearBy_56 hl (k := 2) rfl (w9_s hj10) (by decide) rfl (fun ls hl => ?_)
                refine lv_goto (tgt := 14) hx hb dX2_wearBy_59 (by decide) ?_
                have hl : lv_has ls 6 [(4, .int (w9 (j + 1))), (3, .int (nI g)), (2, .int (x + (k (g * 10 + (9 - j))))), (0, .ref a), (1, .int (nI mo))] := lv_sub hl [0, 3, 1, 4, 5] rfl
                exact ih_14 (j + 1) (x + (k (g * 10 + (9 - j)))) (upd k (g * 10 + (9 - j)) (k (g * 10 + (9 - j)) + -k (g * 10 + (9 - j)))) (by omega) (by subst hx9; subst hk9; first | (rw [wbI_s, wbU_t c_34]; try rfl) | (rw [wbI_s, wbU_f c_34]; try rfl)) (by subst hx9; subst hk9; first | (rw [wbI_s, wbU_t c_34]; try rfl) | (rw [wbI_s, wbU_f c_34]; try rfl)) (by omega) _ _ _ hW hl
              · have c_34 : 9 - j + mo < 10 := by omega
                refine lv_aload_n hx hb dX2_wearBy_37 rfl (lv_at hl 4 rfl) ?_
                refine lv_iload_n hx hb dX2_wearBy_38 rfl (lv_at hl 2 rfl) ?_
                refine lv_iload hx hb dX2_wearBy_39 (lv_at hl 1 rfl) ?_
                refine lv_iload_n hx hb dX2_wearBy_41 rfl (lv_at hl 5 rfl) ?_
                refine lv_iadd hx hb dX2_wearBy_42 ?_
                refine zw_topi (nI_add _ _) ?_
                refine lv_iload hx hb dX2_wearBy_43 (lv_at hl 0 rfl) ?_
                refine zc_v (va_runV (As := [.int (nI g), .int (nI ((9 - j) + mo)), .int (k (g * 10 + (9 - j)))]) (rest := []) hC (c_X2_change l Z a b (upd k (g * 10 + (9 - j)) (k (g * 10 + (9 - j)) + -k (g * 10 + (9 - j)))) g ((9 - j) + mo) (k (g * 10 + (9 - j))) (by omega) (by omega) _) (cwV 3 hts gX2_wearBy_X2_change rfl rfl rfl (by decide +kernel) ⟨Nat.le_of_ble_eq_true rfl, Nat.le_of_ble_eq_true rfl⟩) (zpreV (ci := 2) (q0 := 0) hX hW rfl rfl [0, 1] rfl (by decide)) rfl rfl hl.1 rfl (lv_room (Nat.le_of_ble_eq_true rfl)) dX2_wearBy_45 ⟨Nat.le_of_ble_eq_true rfl, Nat.le_of_ble_eq_true rfl⟩) hX hW [0, 1] rfl (by decide) (fun _ => rfl) (fun u_45 H locs h_45 hW => ?_)
                have hW : zW Z s A [(a, .inr (2, [.ref b])), (b, zI Z 290 (upd (upd k (g * 10 + (9 - j)) (k (g * 10 + (9 - j)) + -k (g * 10 + (9 - j)))) (g * 10 + ((9 - j) + mo)) ((upd k (g * 10 + (9 - j)) (k (g * 10 + (9 - j)) + -k (g * 10 + (9 - j)))) (g * 10 + ((9 - j) + mo)) + (k (g * 10 + (9 - j))))))] _ _ := hW
                refine lv_goto (tgt := 56) hx hb dX2_wearBy_48 (by decide) ?_
                refine lv_iinc (v := w9 (j + 1)) (lv' := [(4, .int (w9 (j + 1))), (5, .int (k (g * 10 + (9 - j)))), (3, .int (nI g)), (2, .int x), (0, .ref a), (1, .int (nI mo))]) hx hb dX2_wearBy_56 hl (k := 1) rfl (w9_s hj10) (by decide) rfl (fun ls hl => ?_)
                refine lv_goto (tgt := 14) hx hb dX2_wearBy_59 (by decide) ?_
                have hl : lv_has ls 6 [(4, .int (w9 (j + 1))), (3, .int (nI g)), (2, .int x), (0, .ref a), (1, .int (nI mo))] := lv_sub hl [0, 2, 3, 4, 5] rfl
                exact ih_14 (j + 1) x (upd (upd k (g * 10 + (9 - j)) (k (g * 10 + (9 - j)) + -k (g * 10 + (9 - j)))) (g * 10 + ((9 - j) + mo)) ((upd k (g * 10 + (9 - j)) (k (g * 10 + (9 - j)) + -k (g * 10 + (9 - j)))) (g * 10 + ((9 - j) + mo)) + (k (g * 10 + (9 - j))))) (by omega) (by subst hx9; subst hk9; first | (rw [wbI_s, wbU_t c_34]; try rfl) | (rw [wbI_s, wbU_f c_34]; try rfl)) (by subst hx9; subst hk9; first | (rw [wbI_s, wbU_t c_34]; try rfl) | (rw [wbI_s, wbU_f c_34]; try rfl)) (by omega) _ _ _ hW hl
            · rw [w9_ge hj10] at hl
              obtain rfl : j = 10 := by omega
              rw [← wbO_s] at hx9 hk9
              subst hx9
              subst hk9
              have hW : zW Z s A [(a, .inr (2, [.ref b])), (b, zI Z 290 ((wbO mo f (g + 1)).2))] H locs := hW
              have hl : lv_has ls 6 [(4, .int (-1)), (3, .int (nI g)), (2, .int ((wbO mo f (g + 1)).1)), (0, .ref a), (1, .int (nI mo))] := hl
              refine lv_iload hx hb dX2_wearBy_14 (lv_at hl 0 rfl) ?_
              refine lv_if_lt (tgt := 62) hx hb dX2_wearBy_16 (by decide) (fun c_16 => ?_) (fun c_16 => absurd (by decide) c_16)
              refine lv_iinc (v := nI (g + 1)) (lv' := [(3, .int (nI (g + 1))), (4, .int (-1)), (2, .int ((wbO mo f (g + 1)).1)), (0, .ref a), (1, .int (nI mo))]) hx hb dX2_wearBy_62 hl (k := 1) rfl (zinc1 _) (by decide) rfl (fun ls hl => ?_)
              refine lv_goto (tgt := 4) hx hb dX2_wearBy_65 (by decide) ?_
              have hl : lv_has ls 6 [(3, .int (nI (g + 1))), (2, .int ((wbO mo f (g + 1)).1)), (0, .ref a), (1, .int (nI mo))] := lv_sub hl [0, 2, 3, 4] rfl
              exact ih_4 (g + 1) (by omega) (by omega) _ _ _ hW hl
        have hl : lv_has ls 6 [(4, .int (w9 0)), (3, .int (nI g)), (2, .int ((wbO mo f g).1)), (0, .ref a), (1, .int (nI mo))] := lv_sub hl [0, 1, 2, 3, 4] rfl
        exact loop_14 _ 0 ((wbO mo f g).1) ((wbO mo f g).2) (by omega) rfl rfl (Nat.lt_succ_self _) _ _ _ hW hl
  have hl : lv_has ls 6 [(3, .int (nI 0)), (2, .int ((wbO mo f 0).1)), (0, .ref a), (1, .int (nI mo))] := lv_sub hl [0, 1, 2, 3] rfl
  have hW : zW Z s A [(a, .inr (2, [.ref b])), (b, zI Z 290 ((wbO mo f 0).2))] _ _ := hW
  exact loop_4 _ 0 (by omega) (Nat.lt_succ_self _) _ _ _ hW hl
end
section
theorem mw_X2_digestOnto_0 : Cond.fieldLink RX2 9 "TypeFoundry$Sorts" "numbers" "[I" ∈ wsX2_digestOnto := by decide +kernel
theorem mw_X2_digestOnto_1 : ∀ w ∈ wsX20, w ∈ wsX2_digestOnto := by decide +kernel
theorem mw_X2_digestOnto_2 : Cond.constantLong RX2 39 (31) ∈ wsX2_digestOnto := by decide +kernel
abbrev wp_X2_digestOnto (Z : zT) (a b : Nat) (f : Nat → Int32) (d : Int64) : Unit → va_W := fun (u : Unit) => [(a, .inr (2, [.ref b])), (b, zI Z 290 f)]
abbrev po_X2_digestOnto (Z : zT) (a b : Nat) (f : Nat → Int32) (d : Int64) : Int64 → Unit → Prop := fun (r : Int64) (u : Unit) => r = dg d f 290
abbrev rm_X2_digestOnto : Room := { frames := 0, cells := 0, slots := 0, locals := 0 }
set_option maxHeartbeats 4000000 in
set_option maxRecDepth 100000 in
theorem c_X2_digestOnto (l : Launch) (Z : zT) (a b : Nat) (f : Nat → Int32) (d : Int64)  : zMet l yX2_digestOnto wsX2_digestOnto rm_X2_digestOnto [.ref a, .long d] Z [(a, .inr (2, [.ref b])), (b, zI Z 290 f)] (zQl Z (po_X2_digestOnto Z a b f d) (wp_X2_digestOnto Z a b f d)) 0 0 := by
  refine zstart (cc := cX2_digestOnto) (maxL := 6) (ret := (some .long)) (by decide) rfl (Nat.le_of_ble_eq_true rfl) ?_
  intro p e s m below meth c ls A hx hb hr hC hlk hnm hX hW hl
  have hml := hC.2.2.1
  have hown : s.vm.findClass RX2 = some m.cls := hC.2.2.2.1
  have hts := hC.2.2.2.2
  have hl : lv_has ls 6 [(0, .ref a), (1, .long d)] := hl
  refine lv_lload_n hx hb dX2_digestOnto_0 rfl (lv_at hl 1 rfl) ?_
  refine lv_lstore_n (lv' := [(3, .long d), (0, .ref a), (1, .long d)]) hx hb dX2_digestOnto_1 rfl hl (by decide) rfl (fun ls hl => ?_)
  refine lv_iconst (v := nI 0) hx hb dX2_digestOnto_2 (by decide) ?_
  refine lv_istore (lv' := [(5, .int (nI 0)), (3, .long d), (0, .ref a), (1, .long d)]) hx hb dX2_digestOnto_3 hl (by decide) rfl (fun ls hl => ?_)
  have loop_5 : ∀ (n : Nat) (j : Nat), (j ≤ 290) → (290 - j < n) → ∀ (H : Heap) (locs : List Loc) (ls : Array Slot), zW Z s A [(a, .inr (2, [.ref b])), (b, zI Z 290 f)] H locs → lv_has ls 6 [(5, .int (nI j)), (3, .long (dg d f j)), (0, .ref a), (1, .long d)] → W p l e rm_X2_digestOnto s m ([.ref a, .long d] : List Value).toArray below meth c H locs 0 0 (MQ below (zQl Z (po_X2_digestOnto Z a b f d) (wp_X2_digestOnto Z a b f d) A) ([.ref a, .long d] : List Value).toArray s 0 0 A) (F0 m 5 ls []) := by
    intro n
    induction n with
    | zero =>
      intro j hj hm
      exact absurd hm (Nat.not_lt_zero _)
    | succ n ih =>
      intro j hj hm H locs ls hW hl
      have ih_5 := ih
      refine lv_iload hx hb dX2_digestOnto_5 (lv_at hl 0 rfl) ?_
      refine lv_aload_n hx hb dX2_digestOnto_7 rfl (lv_at hl 2 rfl) ?_
      refine z_get (C := RX2) (T := TX2) (N := 1) hx hb hts mw_X2_digestOnto_1 hown hX hW 0 rfl rfl 0 (by decide) mw_X2_digestOnto_0 (fun _ h9 => h9) rfl dX2_digestOnto_8 ?_
      refine z_alen hx hb hX hW 1 rfl dX2_digestOnto_11 ?_
      refine zn_icmp_ge (tgt := 36) (a := j) (b := 290) hx hb (by omega) (by omega) dX2_digestOnto_12 (by decide) (fun c_12 => ?_) (fun c_12 => ?_)
      · refine lv_lload_n hx hb dX2_digestOnto_36 rfl (lv_at hl 1 rfl) ?_
        exact z_lret hx hb hr hlk hW () (by rw [show j = 290 by omega]) (rfl) (by omega) (by omega) dX2_digestOnto_37
      · refine lv_lload_n hx hb dX2_digestOnto_15 rfl (lv_at hl 1 rfl) ?_
        refine lv_ldc2 (own := RX2) (v := 31) hx hb hown (hts _ mw_X2_digestOnto_2) dX2_digestOnto_16 ?_
        refine lv_lmul hx hb dX2_digestOnto_19 ?_
        refine lv_aload_n hx hb dX2_digestOnto_20 rfl (lv_at hl 2 rfl) ?_
        refine z_get (C := RX2) (T := TX2) (N := 1) hx hb hts mw_X2_digestOnto_1 hown hX hW 0 rfl rfl 0 (by decide) mw_X2_digestOnto_0 (fun _ h9 => h9) rfl dX2_digestOnto_21 ?_
        refine lv_iload hx hb dX2_digestOnto_24 (lv_at hl 0 rfl) ?_
        refine z_iald hx hb hX hW 1 rfl (k := j) (by omega) (by omega) dX2_digestOnto_26 ?_
        refine lv_i2l (v := (f j).toInt64) hx hb dX2_digestOnto_27 rfl ?_
        refine lv_ladd hx hb dX2_digestOnto_28 ?_
        refine lv_lstore_n (lv' := [(3, .long (((dg d f j) * 31) + ((f j).toInt64))), (5, .int (nI j)), (0, .ref a), (1, .long d)]) hx hb dX2_digestOnto_29 rfl hl (by decide) rfl (fun ls hl => ?_)
        refine lv_iinc (v := nI (j + 1)) (lv' := [(5, .int (nI (j + 1))), (3, .long (((dg d f j) * 31) + ((f j).toInt64))), (0, .ref a), (1, .long d)]) hx hb dX2_digestOnto_30 hl (k := 1) rfl (zinc1 _) (by decide) rfl (fun ls hl => ?_)
        refine lv_goto (tgt := 5) hx hb dX2_digestOnto_33 (by decide) ?_
        have hl : lv_has ls 6 [(5, .int (nI (j + 1))), (3, .long (dg d f (j + 1))), (0, .ref a), (1, .long d)] := lv_sub hl [0, 1, 2, 3] rfl
        exact ih_5 (j + 1) (by omega) (by omega) _ _ _ hW hl
  have hl : lv_has ls 6 [(5, .int (nI 0)), (3, .long (dg d f 0)), (0, .ref a), (1, .long d)] := lv_sub hl [0, 1, 2, 3] rfl
  exact loop_5 _ 0 (by omega) (Nat.lt_succ_self _) _ _ _ hW hl
end
