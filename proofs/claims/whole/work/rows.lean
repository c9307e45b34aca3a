section
-- ===== PART A: goes FIRST, ahead of the names: the tables' words, and 'selects' of the private methods out of them =====
/-- a private method of a class that the tables say can be made, by its rows of tables_1 -/
def lw_okq (q : MethodName × Nat) : Prop := (q.1.cls ≠ "java/lang/invoke/MethodHandle" ∧ q.1.cls ≠ "java/lang/invoke/VarHandle") ∧ Cond.instantiable q.1.cls q.2 ∈ tables_1 ∧ Cond.privateMethod q.1 ∈ tables_1 ∧ Cond.instanceMethod q.1 ∈ tables_1
theorem lw_p0 : lw_okq (⟨"java/lang/Throwable", "fillInStackTrace", "(I)Ljava/lang/Throwable;"⟩, 6) := ⟨⟨by decide +kernel, by decide +kernel⟩, List.mem_of_getElem? (i := 499) (by decide +kernel), List.mem_of_getElem? (i := 497) (by decide +kernel), List.mem_of_getElem? (i := 498) (by decide +kernel)⟩
theorem lw_p1 : lw_okq (⟨"FalsePan", "obeyText", "()Z"⟩, 9) := ⟨⟨by decide +kernel, by decide +kernel⟩, List.mem_of_getElem? (i := 24) (by decide +kernel), List.mem_of_getElem? (i := 562) (by decide +kernel), List.mem_of_getElem? (i := 563) (by decide +kernel)⟩
theorem lw_p2 : lw_okq (⟨"FalsePan", "refuseBadSets", "(II)V"⟩, 9) := ⟨⟨by decide +kernel, by decide +kernel⟩, List.mem_of_getElem? (i := 24) (by decide +kernel), List.mem_of_getElem? (i := 719) (by decide +kernel), List.mem_of_getElem? (i := 720) (by decide +kernel)⟩
theorem lw_p3 : lw_okq (⟨"FalsePan", "obeyGroup", "(I)Z"⟩, 9) := ⟨⟨by decide +kernel, by decide +kernel⟩, List.mem_of_getElem? (i := 24) (by decide +kernel), List.mem_of_getElem? (i := 833) (by decide +kernel), List.mem_of_getElem? (i := 834) (by decide +kernel)⟩
theorem lw_p4 : lw_okq (⟨"FalsePan", "tryCoins", "(II)Z"⟩, 9) := ⟨⟨by decide +kernel, by decide +kernel⟩, List.mem_of_getElem? (i := 24) (by decide +kernel), List.mem_of_getElem? (i := 837) (by decide +kernel), List.mem_of_getElem? (i := 838) (by decide +kernel)⟩
theorem lw_p5 : lw_okq (⟨"FalsePan", "takeTurn", "(I)V"⟩, 9) := ⟨⟨by decide +kernel, by decide +kernel⟩, List.mem_of_getElem? (i := 24) (by decide +kernel), List.mem_of_getElem? (i := 851) (by decide +kernel), List.mem_of_getElem? (i := 852) (by decide +kernel)⟩
theorem lw_p6 : lw_okq (⟨"FalsePanModel", "refused", "(I)Z"⟩, 14) := ⟨⟨by decide +kernel, by decide +kernel⟩, List.mem_of_getElem? (i := 871) (by decide +kernel), List.mem_of_getElem? (i := 936) (by decide +kernel), List.mem_of_getElem? (i := 937) (by decide +kernel)⟩
theorem lw_p7 : lw_okq (⟨"FalsePanModel", "readText", "([I)I"⟩, 14) := ⟨⟨by decide +kernel, by decide +kernel⟩, List.mem_of_getElem? (i := 871) (by decide +kernel), List.mem_of_getElem? (i := 948) (by decide +kernel), List.mem_of_getElem? (i := 949) (by decide +kernel)⟩
theorem lw_p8 : lw_okq (⟨"FalsePanModel", "sign", "()I"⟩, 14) := ⟨⟨by decide +kernel, by decide +kernel⟩, List.mem_of_getElem? (i := 871) (by decide +kernel), List.mem_of_getElem? (i := 952) (by decide +kernel), List.mem_of_getElem? (i := 953) (by decide +kernel)⟩
theorem lw_p9 : lw_okq (⟨"FalsePanModel", "readCase", "([I)Z"⟩, 14) := ⟨⟨by decide +kernel, by decide +kernel⟩, List.mem_of_getElem? (i := 871) (by decide +kernel), List.mem_of_getElem? (i := 956) (by decide +kernel), List.mem_of_getElem? (i := 957) (by decide +kernel)⟩
theorem lw_p10 : lw_okq (⟨"FalsePanModel", "figures", "(IIII)I"⟩, 14) := ⟨⟨by decide +kernel, by decide +kernel⟩, List.mem_of_getElem? (i := 871) (by decide +kernel), List.mem_of_getElem? (i := 960) (by decide +kernel), List.mem_of_getElem? (i := 961) (by decide +kernel)⟩
theorem lw_p11 : lw_okq (⟨"FalsePanModel", "readCommand", "([I)Z"⟩, 14) := ⟨⟨by decide +kernel, by decide +kernel⟩, List.mem_of_getElem? (i := 871) (by decide +kernel), List.mem_of_getElem? (i := 971) (by decide +kernel), List.mem_of_getElem? (i := 972) (by decide +kernel)⟩
theorem lw_p12 : lw_okq (⟨"FalsePanModel", "letters", "(I)I"⟩, 14) := ⟨⟨by decide +kernel, by decide +kernel⟩, List.mem_of_getElem? (i := 871) (by decide +kernel), List.mem_of_getElem? (i := 975) (by decide +kernel), List.mem_of_getElem? (i := 976) (by decide +kernel)⟩
theorem lw_p13 : lw_okq (⟨"FalsePanModel", "done", "(Z)Z"⟩, 14) := ⟨⟨by decide +kernel, by decide +kernel⟩, List.mem_of_getElem? (i := 871) (by decide +kernel), List.mem_of_getElem? (i := 1004) (by decide +kernel), List.mem_of_getElem? (i := 1005) (by decide +kernel)⟩
theorem lw_p14 : lw_okq (⟨"FalsePanModel", "remember", "()V"⟩, 14) := ⟨⟨by decide +kernel, by decide +kernel⟩, List.mem_of_getElem? (i := 871) (by decide +kernel), List.mem_of_getElem? (i := 1067) (by decide +kernel), List.mem_of_getElem? (i := 1068) (by decide +kernel)⟩
theorem lw_p15 : lw_okq (⟨"FalsePanModel", "gather", "([I)V"⟩, 14) := ⟨⟨by decide +kernel, by decide +kernel⟩, List.mem_of_getElem? (i := 871) (by decide +kernel), List.mem_of_getElem? (i := 1113) (by decide +kernel), List.mem_of_getElem? (i := 1114) (by decide +kernel)⟩
def lw_privs_1 : List (MethodName × Nat) := [(⟨"java/lang/Throwable", "fillInStackTrace", "(I)Ljava/lang/Throwable;"⟩, 6), (⟨"FalsePan", "obeyText", "()Z"⟩, 9), (⟨"FalsePan", "refuseBadSets", "(II)V"⟩, 9), (⟨"FalsePan", "obeyGroup", "(I)Z"⟩, 9), (⟨"FalsePan", "tryCoins", "(II)Z"⟩, 9), (⟨"FalsePan", "takeTurn", "(I)V"⟩, 9), (⟨"FalsePanModel", "refused", "(I)Z"⟩, 14), (⟨"FalsePanModel", "readText", "([I)I"⟩, 14), (⟨"FalsePanModel", "sign", "()I"⟩, 14), (⟨"FalsePanModel", "readCase", "([I)Z"⟩, 14), (⟨"FalsePanModel", "figures", "(IIII)I"⟩, 14), (⟨"FalsePanModel", "readCommand", "([I)Z"⟩, 14), (⟨"FalsePanModel", "letters", "(I)I"⟩, 14), (⟨"FalsePanModel", "done", "(Z)Z"⟩, 14), (⟨"FalsePanModel", "remember", "()V"⟩, 14), (⟨"FalsePanModel", "gather", "([I)V"⟩, 14)]
theorem lw_r1 : ∀ q ∈ lw_privs_1, lw_okq q := List.forall_mem_cons.mpr ⟨lw_p0, List.forall_mem_cons.mpr ⟨lw_p1, List.forall_mem_cons.mpr ⟨lw_p2, List.forall_mem_cons.mpr ⟨lw_p3, List.forall_mem_cons.mpr ⟨lw_p4, List.forall_mem_cons.mpr ⟨lw_p5, List.forall_mem_cons.mpr ⟨lw_p6, List.forall_mem_cons.mpr ⟨lw_p7, List.forall_mem_cons.mpr ⟨lw_p8, List.forall_mem_cons.mpr ⟨lw_p9, List.forall_mem_cons.mpr ⟨lw_p10, List.forall_mem_cons.mpr ⟨lw_p11, List.forall_mem_cons.mpr ⟨lw_p12, List.forall_mem_cons.mpr ⟨lw_p13, List.forall_mem_cons.mpr ⟨lw_p14, List.forall_mem_cons.mpr ⟨lw_p15, fun _ h => absurd h List.not_mem_nil⟩⟩⟩⟩⟩⟩⟩⟩⟩⟩⟩⟩⟩⟩⟩⟩
theorem lw_p16 : lw_okq (⟨"FalsePanModel", "worst", "(IIII)I"⟩, 14) := ⟨⟨by decide +kernel, by decide +kernel⟩, List.mem_of_getElem? (i := 871) (by decide +kernel), List.mem_of_getElem? (i := 1117) (by decide +kernel), List.mem_of_getElem? (i := 1118) (by decide +kernel)⟩
theorem lw_p17 : lw_okq (⟨"FalsePanModel", "command", "(II)Z"⟩, 14) := ⟨⟨by decide +kernel, by decide +kernel⟩, List.mem_of_getElem? (i := 871) (by decide +kernel), List.mem_of_getElem? (i := 1145) (by decide +kernel), List.mem_of_getElem? (i := 1146) (by decide +kernel)⟩
theorem lw_p18 : lw_okq (⟨"FalsePanModel", "weighs", "(II)Z"⟩, 14) := ⟨⟨by decide +kernel, by decide +kernel⟩, List.mem_of_getElem? (i := 871) (by decide +kernel), List.mem_of_getElem? (i := 1149) (by decide +kernel), List.mem_of_getElem? (i := 1150) (by decide +kernel)⟩
def lw_privs_2 : List (MethodName × Nat) := [(⟨"FalsePanModel", "worst", "(IIII)I"⟩, 14), (⟨"FalsePanModel", "command", "(II)Z"⟩, 14), (⟨"FalsePanModel", "weighs", "(II)Z"⟩, 14)]
theorem lw_r2 : ∀ q ∈ lw_privs_2, lw_okq q := List.forall_mem_cons.mpr ⟨lw_p16, List.forall_mem_cons.mpr ⟨lw_p17, List.forall_mem_cons.mpr ⟨lw_p18, fun _ h => absurd h List.not_mem_nil⟩⟩⟩
def lw_privs : List (MethodName × Nat) := lw_privs_1 ++ (lw_privs_2)
def lw_tbl : List Cond := k2_sels lw_privs ++ tables_1
theorem lw_privs_ok : ∀ q ∈ lw_privs, lw_okq q := by
  show ∀ q ∈ lw_privs_1 ++ (lw_privs_2), lw_okq q
  exact List.forall_mem_append.mpr ⟨lw_r1, lw_r2⟩
end
section
/-! ===== BEGIN words of one list among another's, by their places ===== -/
theorem goodIn_r {big : List Cond} (ws : List Cond) (ps : List Nat) (hp : ws = ps.filterMap (fun i => big[i]?)) (h : ws.all goodWord = true) : GoodIn big ws := by
  intro w hw
  have h1 := List.all_eq_true.mp h w hw
  rw [hp] at hw
  obtain ⟨i, -, hi⟩ := List.mem_filterMap.mp hw
  have hm : w ∈ big := by first | exact List.mem_of_getElem? hi | exact List.getElem?_mem hi
  exact ⟨hm, good_of_word h1⟩
theorem goodIn_app {big a b : List Cond} (ha : GoodIn big a) (hb : GoodIn big b) : GoodIn big (a ++ b) := fun w h => (List.mem_append.mp h).elim (ha w) (hb w)
theorem goodIn_ca {big a b : List Cond} {c : Cond} (ha : GoodIn big (c :: a)) (hb : GoodIn big b) : GoodIn big (c :: (a ++ b)) := fun w h => (List.mem_cons.mp h).elim (fun e => ha w (List.mem_cons.mpr (Or.inl e))) (fun h => (List.mem_append.mp h).elim (fun h => ha w (List.mem_cons.mpr (Or.inr h))) (hb w))
theorem goodIn_sub {big ws : List Cond} (hm : ∀ w ∈ ws, w ∈ big) (h : ws.all goodWord = true) : GoodIn big ws := fun w hw => ⟨hm w hw, good_of_word (List.all_eq_true.mp h w hw)⟩
/-! ===== END ===== -/

/-! ===== BEGIN exceptions that leave a method, and their catching by the caller (launches without stack traces) ===== -/
section VXA
/-! The laws vx_back, vx_callV, vx_callS, vx_callSW, vx_throw0, vx_throwS follow proofs of the library, with one case more: JvmDerived/Free/Laws.lean (Back.of_free), Shelf42/LK1.lean (callV, callS), Shelf/KitTraced.lean (throwNew0V, throwNewS). -/
/-- where a method has thrown q: the class by its name, the cell, what was written, the world -/
def vx_T (XC : String → State → State → Prop) (st : State) (q : Addr) (t : State) (mc ms : Nat) (free : Addr → Prop) : Prop :=
  ∃ (E : String) (ce : Cell) (L : List Loc), XC E st t ∧ t.heap[q]? = some ce ∧ ce.vm = .none ∧ st.vm.findClass E = some ce.cls ∧ st.WarmedH t.vm ∧ st.sameButNew ({ t with vm := st.vm } : State) L mc ms ∧ ∀ z ∈ L, free z.base
def vx_Q (Qc : Array Value → State → Outcome → State → Prop) (XC : String → State → State → Prop) (mc ms : Nat) (free : Addr → Prop) : Array Value → State → Outcome → State → Prop := fun a st o t =>
  (Qc a st o t ∧ ∃ L, FrameEnd st o t L mc ms ∧ ∀ q ∈ L, free q.base) ∨ ∃ q, o = .threw q ∧ vx_T XC st q t mc ms free
/-- a callee that returns or throws -/
def vx_Met (l : Launch) (y : MethodName) (ws : List Cond) (rm : Room) (Pc : Array Value → State → Prop) (Qc : Array Value → State → Outcome → State → Prop) (XC : String → State → State → Prop) (mc ms : Nat) (free : Addr → Prop) : Prop :=
  MetFree l y (headSpec ws rm) Pc (fun _ _ _ _ _ => True) (vx_Q Qc XC mc ms free)
def vx_Post (XC : String → State → State → Prop) (mc ms : Nat) (free : Addr → Prop) : Pt → Array Value → Addr → Pt → Prop := fun A a q B =>
  ∃ (g : JFrame) (mk : MethodId) (t : State) (L : List Loc) (E : String) (ce : Cell), B.U.heap = t.heap ∧ B.U.vm = t.vm ∧ XC E (A.U.calling g mk a) t ∧ t.heap[q]? = some ce ∧ ce.vm = .none ∧ A.U.vm.findClass E = some ce.cls ∧ B.locs = A.locs ++ L ∧ (∀ z ∈ L, free z.base) ∧ B.cells = A.cells + mc ∧ B.slots = A.slots + ms
def vx_Back (l : Launch) (R : Room) (p : Program) (e : Env) (below : List Frame) (s : State) (sargs : Array Value) (y : MethodName) (len W9 : Nat)
    (Pre : Pt → Array Value → Prop) (Post : Pt → Array Value → Option Value → Pt → Prop) (PostX : Pt → Array Value → Addr → Pt → Prop) : Prop :=
  ∀ (m : MethodId) (meth : Method) (c : Code) (A : Pt) (g : JFrame) (ig : Instr) (mk : MethodId) (a : Array Value),
    Stand p l e R s m sargs below meth c A.U A.locs A.cells A.slots → g.method = m → g.locals.size = c.maxLocals → decode c.code g.pc = .ok (ig, len) →
    2 * g.monitorRoom + (g.stack.map fun v => v.category).sum ≤ W9 → A.U.methodNamed? y = some mk → Pre A a →
    (∃ (v : Option Value) (B : Pt), Stand p l e R s m sargs below meth c B.U B.locs B.cells B.slots ∧ Post A a v B ∧
      Steps p.tables e below (doInvoke e (A.U.setTop g) [] mk a).1 (B.U.setTop { g with pc := g.pc + len, stack := v.toList ++ g.stack })) ∨
    (∃ (q : Addr) (B : Pt), Stand p l e R s m sargs below meth c B.U B.locs B.cells B.slots ∧ PostX A a q B ∧
      Steps p.tables e below (doInvoke e (A.U.setTop g) [] mk a).1 ((B.U.setTop g).pushFrame (.throwing q)))
section Payer
variable {l : Launch} {R : Room} {p : Program} {e : Env} {below : List Frame} {s : State} {sargs : Array Value} {y : MethodName} {len W9 : Nat}
theorem vx_back {ws : List Cond} {rm : Room} {Pc : Array Value → State → Prop} {Qc : Array Value → State → Outcome → State → Prop} {XC : String → State → State → Prop} {mc ms : Nat} {free : Addr → Prop} {bytes : ByteArray} {maxL : Nat} {ret : Option FieldType}
    (hM : vx_Met l y ws rm Pc Qc XC mc ms free) (hblind : FrameBlind Pc) (hrc : rm.cells = mc) (hrs : rm.slots = ms)
    (hframes : rm.frames + 1 ≤ R.frames) (hlocals : W9 + (maxL + 11) + rm.locals ≤ R.locals)
    (hws : ∀ w ∈ ws, ∀ a' U, s.WarmedH U.vm → w.before a' U = true) (hcode : Cond.code y bytes maxL ret ∈ ws) (hinit : ∀ a' U, s.WarmedH U.vm → (Cond.initialized y.cls).before a' U = true) :
    vx_Back l R p e below s sargs y len W9 (PreOf R mc ms Pc) (PostOf Qc mc ms free) (vx_Post XC mc ms free) := by
  intro m meth c A g ig mk a X hg hsize hdg hW hn hp
  have h1 : (headSpec ws rm).pre.before a A.U = true := atoms_intro fun w hw => hws w hw _ _ X.warmed
  have h2 : (Cond.code y bytes maxL ret).before a A.U = true := hws _ hcode _ _ X.warmed
  have h3 : (Cond.initialized y.cls).before a A.U = true := hinit _ _ X.warmed
  have h4 : A.cells + (headSpec ws rm).room.cells ≤ R.cells := by rw [show (headSpec ws rm).room.cells = mc from hrc]; exact hp.1
  have h5 : A.slots + (headSpec ws rm).room.slots ≤ R.slots := by rw [show (headSpec ws rm).room.slots = ms from hrs]; exact hp.2.1
  have hPc : Pc a (A.U.calling g mk a) := hblind _ _ _ _ hp.2.2
  obtain ⟨U, Ls, c0, s0⟩ := A
  dsimp only [Pt.U, Pt.locs, Pt.cells, Pt.slots] at h1 h2 h3 h4 h5 X hn hPc ⊢
  obtain ⟨methY, cY, hmY, hcY, -, hlY, -, -, -, -⟩ := Cond.code_spec hn h2
  obtain ⟨kY, hkY, -⟩ := className_of_methodNamed hn
  have hinitY : kY.init = .initialized := Cond.initialized_spec (findClass_of_methodNamed hn) hkY h3
  have h : At U g.method c below := by rw [hg]; exact X.here
  have hlocals9 : W9 + (maxL + 11) + (headSpec ws rm).room.locals ≤ R.locals := hlocals
  have happ : (headSpec ws rm).appliesLoose y e.platform (U.calling g mk a) = true :=
    Spec.appliesLoose_calling (g := g) h hdg hn hkY hinitY
      (X.room_calling (g := g) (R' := (headSpec ws rm).room) hsize hmY hcY hframes (by rw [hlY]; omega) h4 h5) h1
  obtain ⟨mid, hmid⟩ := h.above
  have hfr : (U.setTop g).frames = (.java g :: mid) ++ below := by rw [State.frames_setTop' g h.top, hmid]; rfl
  obtain ⟨o, s₂, hsteps, -, hend, hq⟩ := Steps.callFree hM p X.admits X.cas X.clock (acts := []) hfr happ hPc trivial
  have hq' : vx_Q Qc XC mc ms free a (U.calling g mk a) o s₂ := hq
  rw [State.frames_setTop' g h.top] at hend
  obtain ⟨g₀, hg0⟩ := Option.isSome_iff_exists.mp h.top
  obtain ⟨r, hr⟩ := State.topJava?_eq_some.mp hg0
  have hr' : (({ U with heap := s₂.heap, slotsUsed := s₂.slotsUsed } : State).setVm s₂.vm).frames = .java g₀ :: r := hr
  rcases hq' with ⟨hqc, L, hfe, hL⟩ | ⟨q, rfl, E, ce, L, hx, hce, hcv, hcl, hW₂, hsm, hL⟩
  · obtain ⟨⟨v, rfl⟩, hW₂, e2, q2, q3, q4, q5, q6⟩ := id hfe
    have e3 : s₂ = ({ (U.calling g mk a).setFrames s₂.frames with heap := s₂.heap, slotsUsed := s₂.slotsUsed } : State).setVm s₂.vm := by
      have : s₂ = ({ s₂ with vm := (U.calling g mk a).vm } : State).setVm s₂.vm := rfl
      rw [e2] at this
      exact this
    obtain ⟨c₂, i₂, len₂, hc₂, hd₂, hf₂⟩ := hend
    have hW' : U.WarmedH s₂.vm := hW₂
    have hcc : c₂ = c := by
      have h1 : s₂.code? g.method = U.code? g.method := by
        rw [State.code?_eq, State.code?_eq, hW'.alike.method?]
      exact Option.some.inj (hc₂.symm.trans (h1.trans h.code))
    subst hcc
    have hlen : len₂ = len := by rw [hdg] at hd₂; cases hd₂; rfl
    subst hlen
    have hs₂ : s₂ = (({ U with heap := s₂.heap, slotsUsed := s₂.slotsUsed } : State).setVm s₂.vm).setTop { g with pc := g.pc + len₂, stack := v.toList ++ g.stack } := by
      refine e3.trans ?_
      rw [hf₂, State.calling_eq h.top, State.setFrames_setFrames, State.setTop_of_frames _ hr', hr]
      rfl
    have hsame : U.sameButNew ({ U with heap := s₂.heap, slotsUsed := s₂.slotsUsed } : State) L mc ms := by
      refine ⟨?_, q2, q3, q4, q5, q6⟩
      obtain ⟨t, ht, -⟩ := State.frames_cons hr
      show ({ U with heap := s₂.heap, slotsUsed := s₂.slotsUsed } : State) = { U.setFrames U.frames with heap := s₂.heap, slotsUsed := s₂.slotsUsed }
      rw [State.setFrames_self ht]
    subst hg
    refine Or.inl ⟨v, ⟨(({ U with heap := s₂.heap, slotsUsed := s₂.slotsUsed } : State).setVm s₂.vm), Ls ++ L, c0 + mc, s0 + ms⟩,
      ⟨X.admits, X.cas, X.clock, X.frames, X.room, X.hears, X.method, X.code, (X.here.setHeapUsed s₂.heap s₂.slotsUsed).setVm hW'.alike, X.tail, State.WarmedH.trans X.warmed hW', X.limits, X.bytes, X.same.trans (hsame.setVm s.vm)⟩,
      ⟨g, mk, s₂, L, rfl, rfl, hqc, rfl, hL, rfl, rfl⟩, ?_⟩
    show Steps p.tables e below _ ((({ U with heap := s₂.heap, slotsUsed := s₂.slotsUsed } : State).setVm s₂.vm).setTop { g with pc := g.pc + len₂, stack := v.toList ++ g.stack })
    rw [← hs₂]
    exact hsteps
  · obtain ⟨e2, q2, q3, q4, q5, q6⟩ := id hsm
    have e3 : s₂ = ({ (U.calling g mk a).setFrames s₂.frames with heap := s₂.heap, slotsUsed := s₂.slotsUsed } : State).setVm s₂.vm := by
      have : s₂ = ({ s₂ with vm := (U.calling g mk a).vm } : State).setVm s₂.vm := rfl
      rw [e2] at this
      exact this
    have hf₂ : s₂.frames = .throwing q :: .java g :: U.frames.tail := hend
    have hW' : U.WarmedH s₂.vm := hW₂
    have hs₂ : s₂ = ((({ U with heap := s₂.heap, slotsUsed := s₂.slotsUsed } : State).setVm s₂.vm).setTop g).pushFrame (.throwing q) := by
      refine e3.trans ?_
      rw [hf₂, State.calling_eq h.top, State.setFrames_setFrames, State.pushFrame, State.frames_setTop _ hr', State.setTop_of_frames _ hr', State.setFrames_setFrames, hr]
      rfl
    have hsame : U.sameButNew ({ U with heap := s₂.heap, slotsUsed := s₂.slotsUsed } : State) L mc ms := by
      refine ⟨?_, q2, q3, q4, q5, q6⟩
      obtain ⟨t, ht, -⟩ := State.frames_cons hr
      show ({ U with heap := s₂.heap, slotsUsed := s₂.slotsUsed } : State) = { U.setFrames U.frames with heap := s₂.heap, slotsUsed := s₂.slotsUsed }
      rw [State.setFrames_self ht]
    subst hg
    refine Or.inr ⟨q, ⟨(({ U with heap := s₂.heap, slotsUsed := s₂.slotsUsed } : State).setVm s₂.vm), Ls ++ L, c0 + mc, s0 + ms⟩,
      ⟨X.admits, X.cas, X.clock, X.frames, X.room, X.hears, X.method, X.code, (X.here.setHeapUsed s₂.heap s₂.slotsUsed).setVm hW'.alike, X.tail, State.WarmedH.trans X.warmed hW', X.limits, X.bytes, X.same.trans (hsame.setVm s.vm)⟩,
      ⟨g, mk, s₂, L, E, ce, rfl, rfl, hx, hce, hcv, hcl, rfl, hL, rfl, rfl⟩, ?_⟩
    show Steps p.tables e below _ (((({ U with heap := s₂.heap, slotsUsed := s₂.slotsUsed } : State).setVm s₂.vm).setTop g).pushFrame (.throwing q))
    rw [← hs₂]
    exact hsteps
end Payer
section Calls
variable {p : Program} {l : Launch} {e : Env} {R : Room} {s : State} {m : MethodId} {args : Array Value} {below : List Frame} {meth : Method} {c : Code} {T : State} {locs : List Loc} {cells slots : Nat}
theorem vx_callV (X : Stand p l e R s m args below meth c T locs cells slots) (hexec : p.tables.exec = Jvm.exec) {own C : String} {index : Nat} {y : MethodName} {bytes : ByteArray} {maxL : Nat} {ret : Option FieldType}
    (hown : s.vm.findClass own = some m.cls) (hlink : (Cond.methodLink own index y).before args s = true) (hinst : (Cond.instanceMethod y).before args s = true) (hsel : (Cond.selects C y y).before args s = true)
    (hcode : (Cond.code y bytes maxL ret).before args s = true) (hy : y.cls ≠ "java/lang/invoke/MethodHandle" ∧ y.cls ≠ "java/lang/invoke/VarHandle")
    {W9 : Nat} {Pre : Pt → Array Value → Prop} {Post : Pt → Array Value → Option Value → Pt → Prop} {PostX : Pt → Array Value → Addr → Pt → Prop} (hK : vx_Back l R p e below s args y 3 W9 Pre Post PostX)
    {b : Addr} {cellB : Cell} (hcell : T.heap[b]? = some cellB) (hobj : cellB.vm.isStatics = false) (hcls : s.vm.findClass C = some cellB.cls)
    {g : JFrame} (hg : g.method = m) (hsize : g.locals.size = c.maxLocals) {argsL rest : List Value} (hlen : ∀ sig, parseMethodDescriptor y.desc = some sig → argsL.length = sig.parameters.length)
    (hstack : g.stack = argsL.reverse ++ .ref b :: rest) (hW : 2 * g.monitorRoom + (rest.map fun v => v.category).sum ≤ W9) (hdg : decode c.code g.pc = .ok (.invokevirtual index, 3))
    (hpre : ∀ vm₁, s.WarmedH vm₁ → Pre ⟨T.setVm vm₁, locs, cells, slots⟩ (Value.ref b :: argsL).toArray) :
    (∃ (v : Option Value) (vm₁ : Vm) (B : Pt), s.WarmedH vm₁ ∧ Stand p l e R s m args below meth c B.U B.locs B.cells B.slots ∧ Post ⟨T.setVm vm₁, locs, cells, slots⟩ (Value.ref b :: argsL).toArray v B ∧
      ∀ target, Steps p.tables e below (B.U.setTop { g with pc := g.pc + 3, stack := v.toList ++ rest }) target → Steps p.tables e below (T.setTop g) target) ∨
    (∃ (q : Addr) (vm₁ : Vm) (B : Pt), s.WarmedH vm₁ ∧ Stand p l e R s m args below meth c B.U B.locs B.cells B.slots ∧ PostX ⟨T.setVm vm₁, locs, cells, slots⟩ (Value.ref b :: argsL).toArray q B ∧
      Steps p.tables e below (T.setTop g) ((B.U.setTop { g with stack := rest }).pushFrame (.throwing q))) := by
  obtain ⟨mk, methM, hnamed, hmethM, hstM, habM⟩ := Cond.instanceMethod_spec hinst
  obtain ⟨methM', cM, hmethM', -, -, -, -, -, -, hsigM⟩ := Cond.code_spec hnamed hcode
  cases hmethM.symm.trans hmethM'
  obtain ⟨c2, r2, m2, q1, q2, q3, q4, kP, hkP, hkPi⟩ := Cond.selects_spec hsel
  cases hcls.symm.trans q1
  cases (State.methodFound?_of_named hnamed hy).symm.trans q2
  cases hnamed.symm.trans q3
  have hselP : selectMethod e.platform s.vm cellB.cls mk = .method mk := by rw [Launch.admits_selectMethod X.admits]; exact q4
  obtain ⟨vm₁, X₁, hstep₁⟩ := X.invokevirtual hexec hown hlink hnamed hmethM hstM hkP hkPi hy (a := b) (cell := cellB) hcell
    (fun z h => by rw [h] at hobj; cases hobj) hselP hmethM habM hkP hkPi (g := g) hg (argsL := argsL) (rest := rest) (hlen _ hsigM) hstack hdg
  rcases hK m meth c ⟨T.setVm vm₁, locs, cells, slots⟩ { g with stack := rest } (.invokevirtual index) mk (Value.ref b :: argsL).toArray X₁ hg hsize hdg hW (X₁.named hnamed) (hpre vm₁ X₁.warmed) with ⟨v, B, X', hpost, hsteps⟩ | ⟨q, B, X', hpost, hsteps⟩
  · exact Or.inl ⟨v, vm₁, B, X₁.warmed, X', hpost, fun target h => hstep₁ _ fun acts => by rw [doInvoke_state]; exact hsteps.trans h⟩
  · exact Or.inr ⟨q, vm₁, B, X₁.warmed, X', hpost, hstep₁ _ fun acts => by rw [doInvoke_state]; exact hsteps⟩
theorem vx_callS (X : Stand p l e R s m args below meth c T locs cells slots) (hexec : p.tables.exec = Jvm.exec) {own : String} {index : Nat} {y : MethodName} {bytes : ByteArray} {maxL : Nat} {ret : Option FieldType}
    (hown : s.vm.findClass own = some m.cls) (hlink : (Cond.methodLink own index y).before args s = true) (hstat : (Cond.static y).before args s = true) (hinit : (Cond.initialized y.cls).before args s = true)
    (hcode : (Cond.code y bytes maxL ret).before args s = true) (hy : y.cls ≠ "java/lang/invoke/MethodHandle" ∧ y.cls ≠ "java/lang/invoke/VarHandle")
    {W9 : Nat} {Pre : Pt → Array Value → Prop} {Post : Pt → Array Value → Option Value → Pt → Prop} {PostX : Pt → Array Value → Addr → Pt → Prop} (hK : vx_Back l R p e below s args y 3 W9 Pre Post PostX)
    {g : JFrame} (hg : g.method = m) (hsize : g.locals.size = c.maxLocals) {argsL rest : List Value} (hlen : ∀ sig, parseMethodDescriptor y.desc = some sig → argsL.length = sig.parameters.length)
    (hstack : g.stack = argsL.reverse ++ rest) (hW : 2 * g.monitorRoom + (rest.map fun v => v.category).sum ≤ W9) (hdg : decode c.code g.pc = .ok (.invokestatic index, 3))
    (hpre : ∀ vm₁, s.WarmedH vm₁ → Pre ⟨T.setVm vm₁, locs, cells, slots⟩ argsL.toArray) :
    (∃ (v : Option Value) (vm₁ : Vm) (B : Pt), s.WarmedH vm₁ ∧ Stand p l e R s m args below meth c B.U B.locs B.cells B.slots ∧ Post ⟨T.setVm vm₁, locs, cells, slots⟩ argsL.toArray v B ∧
      ∀ target, Steps p.tables e below (B.U.setTop { g with pc := g.pc + 3, stack := v.toList ++ rest }) target → Steps p.tables e below (T.setTop g) target) ∨
    (∃ (q : Addr) (vm₁ : Vm) (B : Pt), s.WarmedH vm₁ ∧ Stand p l e R s m args below meth c B.U B.locs B.cells B.slots ∧ PostX ⟨T.setVm vm₁, locs, cells, slots⟩ argsL.toArray q B ∧
      Steps p.tables e below (T.setTop g) ((B.U.setTop { g with stack := rest }).pushFrame (.throwing q))) := by
  obtain ⟨mk, hnamed⟩ := Cond.code_named hcode
  obtain ⟨methM, cM, hmethM, -, -, -, -, -, -, hsigM⟩ := Cond.code_spec hnamed hcode
  have hstatic : methM.isStatic = true := Cond.static_spec hnamed hmethM hstat
  obtain ⟨kP, hkP, -⟩ := className_of_methodNamed hnamed
  have hinitP : kP.init = .initialized := Cond.initialized_spec (findClass_of_methodNamed hnamed) hkP hinit
  obtain ⟨vm₁, X₁, hstep₁⟩ := X.invokestatic hexec hown hlink hnamed hmethM hstatic hkP hinitP hy (g := g) hg (argsL := argsL) (rest := rest) (hlen _ hsigM) hstack hdg
  rcases hK m meth c ⟨T.setVm vm₁, locs, cells, slots⟩ { g with stack := rest } (.invokestatic index) mk argsL.toArray X₁ hg hsize hdg hW (X₁.named hnamed) (hpre vm₁ X₁.warmed) with ⟨v, B, X', hpost, hsteps⟩ | ⟨q, B, X', hpost, hsteps⟩
  · exact Or.inl ⟨v, vm₁, B, X₁.warmed, X', hpost, fun target h => hstep₁ _ fun acts => by rw [doInvoke_state]; exact hsteps.trans h⟩
  · exact Or.inr ⟨q, vm₁, B, X₁.warmed, X', hpost, hstep₁ _ fun acts => by rw [doInvoke_state]; exact hsteps⟩
end Calls
theorem vx_cls {s : State} {T : State} {vm₁ : Vm} {E : String} {k : ClassId} (hW : s.WarmedH vm₁) (h : (T.setVm vm₁).vm.findClass E = some k) : s.vm.findClass E = some k := by
  have h1 : vm₁.findClass E = some k := h
  rw [hW.alike.findClass] at h1
  exact h1
/-- the method's frame g, with q thrown over it -/
def vx_W (p : Program) (l : Launch) (e : Env) (R : Room) (s : State) (m : MethodId) (args : Array Value) (below : List Frame) (meth : Method) (c : Code) (H : Heap) (locs : List Loc) (cells slots : Nat) (Q : State → Prop) (g : JFrame) (q : Addr) : Prop :=
  ∀ T : State, T.heap = H → Stand p l e R s m args below meth c T locs cells slots → ∃ t, Steps p.tables e below ((T.setTop g).pushFrame (.throwing q)) t ∧ Q t
def vx_Run (p : Program) (l : Launch) (e : Env) (R : Room) (s : State) (m : MethodId) (args : Array Value) (below : List Frame) (meth : Method) (c : Code) (H : Heap) (locs : List Loc) (cells slots mc ms : Nat) (g : JFrame) (rest : List Value) (Qa : State → Outcome → State → Prop) (XC : String → State → State → Prop) (free : Addr → Prop) : Prop :=
  ∀ T : State, T.heap = H → Stand p l e R s m args below meth c T locs cells slots →
    (∃ (v : Option Value) (st₀ t T' : State) (L : List Loc), st₀.heap = H ∧ Stand p l e R s m args below meth c T' (locs ++ L) (cells + mc) (slots + ms) ∧ (∀ q ∈ L, free q.base) ∧ T'.heap = t.heap ∧ T'.vm = t.vm ∧ Qa st₀ (.returned v) t ∧
      Goes p e below T g T' { g with pc := g.pc + 3, stack := v.toList ++ rest }) ∨
    (∃ (q : Addr) (st₀ t T' : State) (L : List Loc) (E : String) (ce : Cell), st₀.heap = H ∧ Stand p l e R s m args below meth c T' (locs ++ L) (cells + mc) (slots + ms) ∧ (∀ z ∈ L, free z.base) ∧ T'.heap = t.heap ∧ T'.vm = t.vm ∧ XC E st₀ t ∧ t.heap[q]? = some ce ∧ ce.vm = .none ∧ s.vm.findClass E = some ce.cls ∧
      Steps p.tables e below (T.setTop g) ((T'.setTop { g with stack := rest }).pushFrame (.throwing q)))
def vx_X {S : Type} (px : S → Prop) (B : String → S → State → Prop) (A : Nat → Prop) : String → State → State → Prop := fun E st t => ∃ u : S, px u ∧ B E u t ∧ va_F A st t
section Runs
variable {p : Program} {l : Launch} {e : Env} {R : Room} {s : State} {m : MethodId} {args : Array Value} {below : List Frame} {meth : Method} {c : Code} {H : Heap} {locs : List Loc} {cells slots : Nat}
variable {y : MethodName} {bytes cc : ByteArray} {maxL nL mc ms n index : Nat} {ret : Option FieldType} {ws : List Cond} {rm : Room} {Pc : Array Value → State → Prop} {Qc : Array Value → State → Outcome → State → Prop} {XC : String → State → State → Prop} {free : Addr → Prop} {Ts : List Cond} {own C : String} {b : Addr} {As rest : List Value} {g : JFrame}
theorem vx_callBack (cb : CallB R s args own index y bytes maxL ret ws rm mc ms n) (hM : vx_Met l y ws rm Pc Qc XC mc ms free) (hbl : FrameBlind Pc) : vx_Back l R p e below s args y 3 8 (PreOf R mc ms Pc) (PostOf Qc mc ms free) (vx_Post XC mc ms free) := by
  obtain ⟨hrc, hrs, hfr, hlo, hws, hcw, -, hini, -⟩ := cb
  exact vx_back (bytes := bytes) (maxL := maxL) (ret := ret) hM hbl hrc hrs hfr hlo hws hcw (fun a' U hW => word_at hW (Or.inl (by first | rfl | simp [Cond.onTables, Cond.keeps, Cond.steady])) hini)
theorem vx_runV (S : CallFix p m c cc nL s args Ts own) (hM : vx_Met l y ws rm Pc Qc XC mc ms free) (cw : CallW R s args own C index y bytes maxL ret ws rm mc ms n) (hp : PreV s H C b Pc As)
    (hg : g.method = m) (hn : As.length = n) (hsize : g.locals.size = nL) (hstack : g.stack = As.reverse ++ .ref b :: rest) (hW : 2 * g.monitorRoom + (rest.map fun v => v.category).sum ≤ 8) (hdg : decode cc g.pc = .ok (.invokevirtual index, 3)) (hf : cells + mc ≤ R.cells ∧ slots + ms ≤ R.slots) :
    vx_Run p l e R s m args below meth c H locs cells slots mc ms g rest (Qc (Value.ref b :: As).toArray) XC free := by
  have hK : vx_Back l R p e below s args y 3 8 (PreOf R mc ms Pc) (PostOf Qc mc ms free) (vx_Post XC mc ms free) := vx_callBack cw.1 hM hp.1
  obtain ⟨⟨-, -, -, -, -, -, hcode, -, hy, hlen, hl⟩, hin, hse⟩ := cw
  obtain ⟨hx, hb, hml, ho, -⟩ := S
  obtain ⟨-, ⟨cellB, hcB, hoB, hclB⟩, hPc⟩ := hp
  intro T hT X
  rcases vx_callV X hx (C := C) (bytes := bytes) (maxL := maxL) (ret := ret) ho hl hin hse hcode hy hK (by rw [hT]; exact hcB) hoB hclB hg (hsize.trans hml.symm) (argsL := As) (rest := rest) (fun sig h => hn.trans (hlen sig h)) hstack hW (by rw [hb]; exact hdg)
    (fun vm₁ hW₁ => ⟨hf.1, hf.2, hPc (T.setVm vm₁) hT hW₁⟩) with ⟨v, vm₁, ⟨U', l2, c2, s2⟩, hW₁, X', ⟨g', mk, t, L, e1, e2, hq, h1, hL, h2, h3⟩, st⟩ | ⟨q, vm₁, ⟨U', l2, c2, s2⟩, hW₁, X', ⟨g', mk, t, L, E, ce, e1, e2, hq, hce, hcv, hcl, h1, hL, h2, h3⟩, st⟩
  · dsimp only [Pt.U, Pt.locs, Pt.cells, Pt.slots] at X' e1 e2 h1 h2 h3 st
    subst h1; subst h2; subst h3
    exact Or.inl ⟨v, (T.setVm vm₁).calling g' mk (Value.ref b :: As).toArray, t, U', L, hT, X', hL, e1, e2, hq, st⟩
  · dsimp only [Pt.U, Pt.locs, Pt.cells, Pt.slots] at X' e1 e2 h1 h2 h3 st hcl
    subst h1; subst h2; subst h3
    exact Or.inr ⟨q, (T.setVm vm₁).calling g' mk (Value.ref b :: As).toArray, t, U', L, E, ce, hT, X', hL, e1, e2, hq, hce, hcv, vx_cls hW₁ hcl, st⟩
theorem vx_runS (S : CallFix p m c cc nL s args Ts own) (hM : vx_Met l y ws rm Pc Qc XC mc ms free) (cw : CallB R s args own index y bytes maxL ret ws rm mc ms n ∧ (Cond.static y).before args s = true) (hp : PreS s H Pc As)
    (hg : g.method = m) (hn : As.length = n) (hsize : g.locals.size = nL) (hstack : g.stack = As.reverse ++ rest) (hW : 2 * g.monitorRoom + (rest.map fun v => v.category).sum ≤ 8) (hdg : decode cc g.pc = .ok (.invokestatic index, 3)) (hf : cells + mc ≤ R.cells ∧ slots + ms ≤ R.slots) :
    vx_Run p l e R s m args below meth c H locs cells slots mc ms g rest (Qc As.toArray) XC free := by
  have hK : vx_Back l R p e below s args y 3 8 (PreOf R mc ms Pc) (PostOf Qc mc ms free) (vx_Post XC mc ms free) := vx_callBack cw.1 hM hp.1
  obtain ⟨⟨-, -, -, -, -, -, hcode, hini, hy, hlen, hl⟩, hstt⟩ := cw
  obtain ⟨hx, hb, hml, ho, -⟩ := S
  intro T hT X
  rcases vx_callS X hx (bytes := bytes) (maxL := maxL) (ret := ret) ho hl hstt hini hcode hy hK hg (hsize.trans hml.symm) (argsL := As) (rest := rest) (fun sig h => hn.trans (hlen sig h)) hstack hW (by rw [hb]; exact hdg)
    (fun vm₁ hW₁ => ⟨hf.1, hf.2, hp.2 (T.setVm vm₁) hT hW₁⟩) with ⟨v, vm₁, ⟨U', l2, c2, s2⟩, hW₁, X', ⟨g', mk, t, L, e1, e2, hq, h1, hL, h2, h3⟩, st⟩ | ⟨q, vm₁, ⟨U', l2, c2, s2⟩, hW₁, X', ⟨g', mk, t, L, E, ce, e1, e2, hq, hce, hcv, hcl, h1, hL, h2, h3⟩, st⟩
  · dsimp only [Pt.U, Pt.locs, Pt.cells, Pt.slots] at X' e1 e2 h1 h2 h3 st
    subst h1; subst h2; subst h3
    exact Or.inl ⟨v, (T.setVm vm₁).calling g' mk As.toArray, t, U', L, hT, X', hL, e1, e2, hq, st⟩
  · dsimp only [Pt.U, Pt.locs, Pt.cells, Pt.slots] at X' e1 e2 h1 h2 h3 st hcl
    subst h1; subst h2; subst h3
    exact Or.inr ⟨q, (T.setVm vm₁).calling g' mk As.toArray, t, U', L, E, ce, hT, X', hL, e1, e2, hq, hce, hcv, vx_cls hW₁ hcl, st⟩
end Runs
section Rows
variable {p : Program} {l : Launch} {e : Env} {R : Room} {s : State} {m : MethodId} {args : Array Value} {below : List Frame} {meth : Method} {c : Code} {H : Heap} {locs : List Loc} {cells slots : Nat} {Q : State → Prop}
variable {mc ms : Nat} {free : Addr → Prop} {A0 A1 : Nat → Prop} {H0 : Heap} {a : Array Value} {pc : Nat} {ls : Array Slot} {st0 rest : List Value}
theorem vx_keep {st₀ t T' : State} {L : List Loc} (h0 : st₀.heap = H) (e1 : T'.heap = t.heap) (hS : va_S A0 H0 H locs) (hA : ∀ q, q < H.size → A1 q → A0 q) (hf : ∀ q, free q → A0 q) (hL : ∀ q ∈ L, free q.base) (hF : va_F A1 st₀ t) :
    H.size ≤ T'.heap.size ∧ (∀ q : Nat, q < H.size → ¬ A1 q → T'.heap[q]? = H[q]?) ∧ va_S A0 H0 T'.heap (locs ++ L) := by
  obtain ⟨hz, hk⟩ := hF
  rw [h0] at hz hk
  exact ⟨by rw [e1]; exact hz, fun q h1 h2 => by rw [e1]; exact hk q h1 h2,
    ⟨Nat.le_trans hS.1 (by rw [e1]; exact hz), fun q h1 h2 => by rw [e1, hk q (Nat.lt_of_lt_of_le h1 hS.1) (fun z => h2 (hA q (Nat.lt_of_lt_of_le h1 hS.1) z))]; exact hS.2.1 q h1 h2, fun q hq => by
      rcases List.mem_append.mp hq with h | h
      · exact hS.2.2 q h
      · exact hf _ (hL q h)⟩⟩
theorem vx_calli {S SX : Type} {post : Int32 → S → Prop} {px : SX → Prop} {B : S → State → Prop} {BX : String → SX → State → Prop} {AX : Nat → Prop} (hr : vx_Run p l e R s m args below meth c H locs cells slots mc ms (F0 m pc ls st0) rest (va_Qi post B A1 a) (vx_X px BX AX) free) (hS : va_S A0 H0 H locs) (hA : ∀ q, q < H.size → A1 q → A0 q) (hf : ∀ q, free q → A0 q) (hAX : ∀ q, q < H.size → AX q → A0 q)
    (kx : ∀ (E : String) (ce : Cell) (q9 : Addr) (u : SX) (t : State) (H1 : Heap) (locs1 : List Loc), t.heap = H1 → s.vm.Alike t.vm → px u → BX E u t → H.size ≤ H1.size → (∀ q : Nat, q < H.size → ¬ AX q → H1[q]? = H[q]?) → va_S A0 H0 H1 locs1 → H1[q9]? = some ce → ce.vm = .none → s.vm.findClass E = some ce.cls → vx_W p l e R s m args below meth c H1 locs1 (cells + mc) (slots + ms) Q (F0 m pc ls rest) q9)
    (kk : ∀ (r : Int32) (u : S) (t : State) (H1 : Heap) (locs1 : List Loc), t.heap = H1 → s.vm.Alike t.vm → post r u → B u t → H.size ≤ H1.size → (∀ q : Nat, q < H.size → ¬ A1 q → H1[q]? = H[q]?) → va_S A0 H0 H1 locs1 → W p l e R s m args below meth c H1 locs1 (cells + mc) (slots + ms) Q (F0 m (pc + 3) ls (.int r :: rest))) : W p l e R s m args below meth c H locs cells slots Q (F0 m pc ls st0) := by
  intro T hT X
  rcases hr T hT X with ⟨v, st₀, t, T', L, h0, X', hL, e1, e2, ⟨⟨r, u, hv, hp, hb⟩, hF⟩, st⟩ | ⟨q, st₀, t, T', L, E, ce, h0, X', hL, e1, e2, ⟨u, hp, hb, hF⟩, hce, hcv, hcl, st⟩
  · cases hv
    obtain ⟨k1, k2, k3⟩ := vx_keep h0 e1 hS hA hf hL hF
    obtain ⟨t2, a1, b1⟩ := kk r u t T'.heap (locs ++ L) e1.symm (by rw [← e2]; exact X'.warmed.alike) hp hb k1 k2 k3 T' rfl X'
    exact ⟨t2, st t2 a1, b1⟩
  · obtain ⟨k1, k2, k3⟩ := vx_keep h0 e1 hS hAX hf hL hF
    obtain ⟨t2, a1, b1⟩ := kx E ce q u t T'.heap (locs ++ L) e1.symm (by rw [← e2]; exact X'.warmed.alike) hp hb k1 k2 k3 (by rw [e1]; exact hce) hcv hcl T' rfl X'
    exact ⟨t2, st.trans a1, b1⟩
theorem vx_calll {S SX : Type} {post : Int64 → S → Prop} {px : SX → Prop} {B : S → State → Prop} {BX : String → SX → State → Prop} {AX : Nat → Prop} (hr : vx_Run p l e R s m args below meth c H locs cells slots mc ms (F0 m pc ls st0) rest (va_Ql post B A1 a) (vx_X px BX AX) free) (hS : va_S A0 H0 H locs) (hA : ∀ q, q < H.size → A1 q → A0 q) (hf : ∀ q, free q → A0 q) (hAX : ∀ q, q < H.size → AX q → A0 q)
    (kx : ∀ (E : String) (ce : Cell) (q9 : Addr) (u : SX) (t : State) (H1 : Heap) (locs1 : List Loc), t.heap = H1 → s.vm.Alike t.vm → px u → BX E u t → H.size ≤ H1.size → (∀ q : Nat, q < H.size → ¬ AX q → H1[q]? = H[q]?) → va_S A0 H0 H1 locs1 → H1[q9]? = some ce → ce.vm = .none → s.vm.findClass E = some ce.cls → vx_W p l e R s m args below meth c H1 locs1 (cells + mc) (slots + ms) Q (F0 m pc ls rest) q9)
    (kk : ∀ (r : Int64) (u : S) (t : State) (H1 : Heap) (locs1 : List Loc), t.heap = H1 → s.vm.Alike t.vm → post r u → B u t → H.size ≤ H1.size → (∀ q : Nat, q < H.size → ¬ A1 q → H1[q]? = H[q]?) → va_S A0 H0 H1 locs1 → W p l e R s m args below meth c H1 locs1 (cells + mc) (slots + ms) Q (F0 m (pc + 3) ls (.long r :: rest))) : W p l e R s m args below meth c H locs cells slots Q (F0 m pc ls st0) := by
  intro T hT X
  rcases hr T hT X with ⟨v, st₀, t, T', L, h0, X', hL, e1, e2, ⟨⟨r, u, hv, hp, hb⟩, hF⟩, st⟩ | ⟨q, st₀, t, T', L, E, ce, h0, X', hL, e1, e2, ⟨u, hp, hb, hF⟩, hce, hcv, hcl, st⟩
  · cases hv
    obtain ⟨k1, k2, k3⟩ := vx_keep h0 e1 hS hA hf hL hF
    obtain ⟨t2, a1, b1⟩ := kk r u t T'.heap (locs ++ L) e1.symm (by rw [← e2]; exact X'.warmed.alike) hp hb k1 k2 k3 T' rfl X'
    exact ⟨t2, st t2 a1, b1⟩
  · obtain ⟨k1, k2, k3⟩ := vx_keep h0 e1 hS hAX hf hL hF
    obtain ⟨t2, a1, b1⟩ := kx E ce q u t T'.heap (locs ++ L) e1.symm (by rw [← e2]; exact X'.warmed.alike) hp hb k1 k2 k3 (by rw [e1]; exact hce) hcv hcl T' rfl X'
    exact ⟨t2, st.trans a1, b1⟩
theorem vx_callf {S SX : Type} {post : UInt32 → S → Prop} {px : SX → Prop} {B : S → State → Prop} {BX : String → SX → State → Prop} {AX : Nat → Prop} (hr : vx_Run p l e R s m args below meth c H locs cells slots mc ms (F0 m pc ls st0) rest (va_Qf post B A1 a) (vx_X px BX AX) free) (hS : va_S A0 H0 H locs) (hA : ∀ q, q < H.size → A1 q → A0 q) (hf : ∀ q, free q → A0 q) (hAX : ∀ q, q < H.size → AX q → A0 q)
    (kx : ∀ (E : String) (ce : Cell) (q9 : Addr) (u : SX) (t : State) (H1 : Heap) (locs1 : List Loc), t.heap = H1 → s.vm.Alike t.vm → px u → BX E u t → H.size ≤ H1.size → (∀ q : Nat, q < H.size → ¬ AX q → H1[q]? = H[q]?) → va_S A0 H0 H1 locs1 → H1[q9]? = some ce → ce.vm = .none → s.vm.findClass E = some ce.cls → vx_W p l e R s m args below meth c H1 locs1 (cells + mc) (slots + ms) Q (F0 m pc ls rest) q9)
    (kk : ∀ (r : UInt32) (u : S) (t : State) (H1 : Heap) (locs1 : List Loc), t.heap = H1 → s.vm.Alike t.vm → post r u → B u t → H.size ≤ H1.size → (∀ q : Nat, q < H.size → ¬ A1 q → H1[q]? = H[q]?) → va_S A0 H0 H1 locs1 → W p l e R s m args below meth c H1 locs1 (cells + mc) (slots + ms) Q (F0 m (pc + 3) ls (.float r :: rest))) : W p l e R s m args below meth c H locs cells slots Q (F0 m pc ls st0) := by
  intro T hT X
  rcases hr T hT X with ⟨v, st₀, t, T', L, h0, X', hL, e1, e2, ⟨⟨r, u, hv, hp, hb⟩, hF⟩, st⟩ | ⟨q, st₀, t, T', L, E, ce, h0, X', hL, e1, e2, ⟨u, hp, hb, hF⟩, hce, hcv, hcl, st⟩
  · cases hv
    obtain ⟨k1, k2, k3⟩ := vx_keep h0 e1 hS hA hf hL hF
    obtain ⟨t2, a1, b1⟩ := kk r u t T'.heap (locs ++ L) e1.symm (by rw [← e2]; exact X'.warmed.alike) hp hb k1 k2 k3 T' rfl X'
    exact ⟨t2, st t2 a1, b1⟩
  · obtain ⟨k1, k2, k3⟩ := vx_keep h0 e1 hS hAX hf hL hF
    obtain ⟨t2, a1, b1⟩ := kx E ce q u t T'.heap (locs ++ L) e1.symm (by rw [← e2]; exact X'.warmed.alike) hp hb k1 k2 k3 (by rw [e1]; exact hce) hcv hcl T' rfl X'
    exact ⟨t2, st.trans a1, b1⟩
theorem vx_calld {S SX : Type} {post : UInt64 → S → Prop} {px : SX → Prop} {B : S → State → Prop} {BX : String → SX → State → Prop} {AX : Nat → Prop} (hr : vx_Run p l e R s m args below meth c H locs cells slots mc ms (F0 m pc ls st0) rest (va_Qd post B A1 a) (vx_X px BX AX) free) (hS : va_S A0 H0 H locs) (hA : ∀ q, q < H.size → A1 q → A0 q) (hf : ∀ q, free q → A0 q) (hAX : ∀ q, q < H.size → AX q → A0 q)
    (kx : ∀ (E : String) (ce : Cell) (q9 : Addr) (u : SX) (t : State) (H1 : Heap) (locs1 : List Loc), t.heap = H1 → s.vm.Alike t.vm → px u → BX E u t → H.size ≤ H1.size → (∀ q : Nat, q < H.size → ¬ AX q → H1[q]? = H[q]?) → va_S A0 H0 H1 locs1 → H1[q9]? = some ce → ce.vm = .none → s.vm.findClass E = some ce.cls → vx_W p l e R s m args below meth c H1 locs1 (cells + mc) (slots + ms) Q (F0 m pc ls rest) q9)
    (kk : ∀ (r : UInt64) (u : S) (t : State) (H1 : Heap) (locs1 : List Loc), t.heap = H1 → s.vm.Alike t.vm → post r u → B u t → H.size ≤ H1.size → (∀ q : Nat, q < H.size → ¬ A1 q → H1[q]? = H[q]?) → va_S A0 H0 H1 locs1 → W p l e R s m args below meth c H1 locs1 (cells + mc) (slots + ms) Q (F0 m (pc + 3) ls (.double r :: rest))) : W p l e R s m args below meth c H locs cells slots Q (F0 m pc ls st0) := by
  intro T hT X
  rcases hr T hT X with ⟨v, st₀, t, T', L, h0, X', hL, e1, e2, ⟨⟨r, u, hv, hp, hb⟩, hF⟩, st⟩ | ⟨q, st₀, t, T', L, E, ce, h0, X', hL, e1, e2, ⟨u, hp, hb, hF⟩, hce, hcv, hcl, st⟩
  · cases hv
    obtain ⟨k1, k2, k3⟩ := vx_keep h0 e1 hS hA hf hL hF
    obtain ⟨t2, a1, b1⟩ := kk r u t T'.heap (locs ++ L) e1.symm (by rw [← e2]; exact X'.warmed.alike) hp hb k1 k2 k3 T' rfl X'
    exact ⟨t2, st t2 a1, b1⟩
  · obtain ⟨k1, k2, k3⟩ := vx_keep h0 e1 hS hAX hf hL hF
    obtain ⟨t2, a1, b1⟩ := kx E ce q u t T'.heap (locs ++ L) e1.symm (by rw [← e2]; exact X'.warmed.alike) hp hb k1 k2 k3 (by rw [e1]; exact hce) hcv hcl T' rfl X'
    exact ⟨t2, st.trans a1, b1⟩
theorem vx_callv {S SX : Type} {post : S → Prop} {px : SX → Prop} {B : S → State → Prop} {BX : String → SX → State → Prop} {AX : Nat → Prop} (hr : vx_Run p l e R s m args below meth c H locs cells slots mc ms (F0 m pc ls st0) rest (va_Qv post B A1 a) (vx_X px BX AX) free) (hS : va_S A0 H0 H locs) (hA : ∀ q, q < H.size → A1 q → A0 q) (hf : ∀ q, free q → A0 q) (hAX : ∀ q, q < H.size → AX q → A0 q)
    (kx : ∀ (E : String) (ce : Cell) (q9 : Addr) (u : SX) (t : State) (H1 : Heap) (locs1 : List Loc), t.heap = H1 → s.vm.Alike t.vm → px u → BX E u t → H.size ≤ H1.size → (∀ q : Nat, q < H.size → ¬ AX q → H1[q]? = H[q]?) → va_S A0 H0 H1 locs1 → H1[q9]? = some ce → ce.vm = .none → s.vm.findClass E = some ce.cls → vx_W p l e R s m args below meth c H1 locs1 (cells + mc) (slots + ms) Q (F0 m pc ls rest) q9)
    (kk : ∀ (u : S) (t : State) (H1 : Heap) (locs1 : List Loc), t.heap = H1 → s.vm.Alike t.vm → post u → B u t → H.size ≤ H1.size → (∀ q : Nat, q < H.size → ¬ A1 q → H1[q]? = H[q]?) → va_S A0 H0 H1 locs1 → W p l e R s m args below meth c H1 locs1 (cells + mc) (slots + ms) Q (F0 m (pc + 3) ls (rest))) : W p l e R s m args below meth c H locs cells slots Q (F0 m pc ls st0) := by
  intro T hT X
  rcases hr T hT X with ⟨v, st₀, t, T', L, h0, X', hL, e1, e2, ⟨⟨u, hv, hp, hb⟩, hF⟩, st⟩ | ⟨q, st₀, t, T', L, E, ce, h0, X', hL, e1, e2, ⟨u, hp, hb, hF⟩, hce, hcv, hcl, st⟩
  · cases hv
    obtain ⟨k1, k2, k3⟩ := vx_keep h0 e1 hS hA hf hL hF
    obtain ⟨t2, a1, b1⟩ := kk u t T'.heap (locs ++ L) e1.symm (by rw [← e2]; exact X'.warmed.alike) hp hb k1 k2 k3 T' rfl X'
    exact ⟨t2, st t2 a1, b1⟩
  · obtain ⟨k1, k2, k3⟩ := vx_keep h0 e1 hS hAX hf hL hF
    obtain ⟨t2, a1, b1⟩ := kx E ce q u t T'.heap (locs ++ L) e1.symm (by rw [← e2]; exact X'.warmed.alike) hp hb k1 k2 k3 (by rw [e1]; exact hce) hcv hcl T' rfl X'
    exact ⟨t2, st.trans a1, b1⟩
/-- caught by the row x of this method's table; the rows ahead don't take it -/
theorem vx_catch {own name : String} {E : String} {ce : Cell} {q : Addr} (hown : s.vm.findClass own = some m.cls) (pre : List ExceptionTableEntry) (x : ExceptionTableEntry) (suf : List ExceptionTableEntry) (hsplit : c.exceptionTable.toList = pre ++ x :: suf)
    (hpass : ∀ z ∈ pre, covers z pc = false ∨ (z.catchType ≠ 0 ∧ ∃ nm : String, (Cond.classLink own z.catchType nm).before args s = true ∧ va_Nc E nm s)) (hx : covers x pc = true) (h0 : x.catchType ≠ 0)
    (hlink : (Cond.classLink own x.catchType name).before args s = true) (hcast : (Cond.castable E name).before args s = true) (hcell : H[q]? = some ce) (hv : ce.vm = .none) (hcl : s.vm.findClass E = some ce.cls)
    (kk : W p l e R s m args below meth c H locs cells slots Q (F0 m x.handlerPc ls [.ref q])) : vx_W p l e R s m args below meth c H locs cells slots Q (F0 m pc ls rest) q := by
  intro T hT X
  have hpl : e.platform.magicAccessors = ({} : Platform).magicAccessors := by rw [X.admits.platform]
  obtain ⟨c3, c4, hc3, hc4, hasg⟩ := Cond.castable_spec hcast
  cases Option.some.inj (hc3.symm.trans hcl)
  obtain ⟨c5, hc5, hcl5⟩ := Cond.classLink_spec hown hlink e.platform hpl
  cases Option.some.inj (hc4.symm.trans hc5)
  obtain ⟨vm', X', st⟩ := X.thenCaughtThrough q (g := F0 m pc ls rest) rfl (Steps.refl _) (by rw [hT]; exact hcell) (by rw [hv]; rfl) (by obtain ⟨k9, h9, -⟩ := Vm.findClass_spec hcl; exact ⟨k9, h9⟩) pre x suf hsplit
    (fun z hz => by
      rcases hpass z hz with h | ⟨hz0, nm, hl1, hn1⟩
      · exact Or.inl h
      · obtain ⟨c6, hc6, hcl6⟩ := Cond.classLink_spec hown hl1 e.platform hpl
        obtain ⟨a8, b8, h1, h2, h3⟩ := hn1
        cases Option.some.inj (h1.symm.trans hcl)
        cases Option.some.inj (h2.symm.trans hc6)
        exact Or.inr ⟨hz0, _, hcl6, h3⟩) hx (Or.inr ⟨h0, c4, hcl5, hasg⟩)
  obtain ⟨t, a1, b1⟩ := kk (T.setVm vm') hT X'
  exact ⟨t, st.trans a1, b1⟩
end Rows
section Ends
variable {p : Program} {l : Launch} {e : Env} {R : Room} {s : State} {m : MethodId} {args : Array Value} {below : List Frame} {meth : Method} {c : Code} {H : Heap} {locs : List Loc} {cells slots : Nat} {Q : State → Prop}
variable {mc ms : Nat} {free : Addr → Prop} {A0 A1 : Nat → Prop} {H0 : Heap} {a : Array Value} {ls : Array Slot} {st0 rest : List Value}
variable {Qc : Array Value → State → Outcome → State → Prop} {XC : String → State → State → Prop}
/-- what a body that may throw owes at its end -/
def vx_MQ (below : List Frame) (Qc : Array Value → State → Outcome → State → Prop) (XC : String → State → State → Prop) (a : Array Value) (s : State) (mc ms : Nat) (free : Addr → Prop) : State → Prop := fun t =>
  ∃ o, t.status = .running ∧ Ended t below o ∧ vx_Q Qc XC mc ms free a s o t
theorem vx_ret {g : JFrame} {mc ms : Nat} (k : W p l e R s m args below meth c H locs cells slots (MQ below Qc args s mc ms free) g) : W p l e R s m args below meth c H locs cells slots (vx_MQ below Qc XC args s mc ms free) g := by
  intro T hT X
  obtain ⟨t, a1, o, b1, b2, b3, b4⟩ := k T hT X
  exact ⟨t, a1, o, b1, b2, Or.inl ⟨b3, b4⟩⟩
/-- not caught here: it goes on to the caller -/
theorem vx_widen {g : JFrame} {q : Addr} {k n : Nat} (h1 : cells ≤ k) (h2 : slots ≤ n) (kk : vx_W p l e R s m args below meth c H locs k n Q g q) : vx_W p l e R s m args below meth c H locs cells slots Q g q := fun T hT X => kk T hT (stand_widen X h1 h2)
theorem vx_out {pc : Nat} {E : String} {ce : Cell} {q : Addr} {mc ms : Nat} (hout : ∀ x ∈ c.exceptionTable.toList, covers x pc = false) (hlocks : meth.locks = false) (hcell : H[q]? = some ce) (hv : ce.vm = .none) (hcl : s.vm.findClass E = some ce.cls)
    (hx : ∀ t : State, t.heap = H → s.vm.Alike t.vm → XC E s t) (hf : ∀ z ∈ locs, free z.base) (hc : cells ≤ mc) (hs : slots ≤ ms) :
    vx_W p l e R s m args below meth c H locs cells slots (vx_MQ below Qc XC args s mc ms free) (F0 m pc ls rest) q := by
  intro T hT X
  obtain ⟨st1, hrun, hend, hW, hsm⟩ := X.leaveThrown q (g := F0 m pc ls rest) rfl rfl rfl hout hlocks
  have hcell9 : (T.setFrames (.throwing q :: below)).heap[q]? = some ce := by
    show T.heap[q]? = some ce
    rw [hT]; exact hcell
  exact ⟨_, st1, .threw q, hrun, hend, Or.inr ⟨q, rfl, E, ce, locs, hx _ hT hW.alike, hcell9, hv, hcl, hW, hsm.mono hc hs, hf⟩⟩
theorem vx_frame {U : State} {k n : Nat} (h : s.sameButNew ({ U with vm := s.vm } : State) locs k n) : s.heap.size ≤ U.heap.size ∧ ∀ q : Nat, q < s.heap.size → (∀ z ∈ locs, z.base ≠ q) → U.heap[q]? = s.heap[q]? := by
  obtain ⟨-, h2, -, -, -, h6⟩ := h
  refine ⟨h2, fun q hq hz => ?_⟩
  obtain ⟨c9, e1, e2, e3, e4⟩ := h6 q _ (Array.getElem?_eq_getElem hq)
  have hs : c9.slots = (s.heap[q]).slots := Array.ext_getElem? fun i => e4 i fun hm => hz _ hm rfl
  have h9 : c9 = s.heap[q] := by
    rw [hs] at e2
    exact e2
  have e5 : U.heap[q]? = some c9 := e1
  rw [e5, h9, Array.getElem?_eq_getElem hq]
/-- the words of a throw but the four that speak of the heap -/
def vx_no (w : Cond) : Bool := decide (w ≠ .isRef (.static Bundle.tN "UNASSIGNED_STACK" Bundle.steD)) && decide (w ≠ .isRef (.static Bundle.tN "SUPPRESSED_SENTINEL" Bundle.listD)) && decide (w ≠ .laysStatic Bundle.tN "UNASSIGNED_STACK" Bundle.steD) && decide (w ≠ .laysStatic Bundle.tN "SUPPRESSED_SENTINEL" Bundle.listD)
def vx_at0 (own : String) (ic : Nat) (X : String) (names : List String) : List Cond := (Bundle.ownAtoms0 own ic X names).filter vx_no
def vx_atS (own : String) (ic : Nat) (X : String) (names : List String) : List Cond := (Bundle.ownAtoms own ic X names).filter vx_no
/-- a word that the tables alone decide, or a good one -/
def vx_ot (w : Cond) : Bool := w.onTables || goodWord w
theorem vx_ot_at {args a' : Array Value} {s U : State} {w : Cond} (hW : s.WarmedH U.vm) (hvm : s.vm = U.vm) (hg : vx_ot w = true) (h : w.before args s = true) : w.before a' U = true := by
  simp only [vx_ot, Bool.or_eq_true] at hg
  rcases hg with hg | hg
  · exact va_tabs hg hvm h
  · exact word_at hW (good_of_word hg) h
/-- a list's words: the good ones out of the method's own list, the others by premises of their own -/
theorem vx_hat {args : Array Value} {s : State} {L B : List Cond} (h1 : ∀ w ∈ L.filter goodWord, w.before args s = true) (h2 : ∀ w ∈ L.filter (fun w => !goodWord w), w ∈ B) (h3 : ∀ w ∈ B, w.before args s = true) : ∀ w ∈ L, w.before args s = true := by
  intro w hw
  by_cases g : goodWord w = true
  · exact h1 w (List.mem_filter.mpr ⟨hw, g⟩)
  · refine h3 w (h2 w (List.mem_filter.mpr ⟨hw, ?_⟩))
    show (!goodWord w) = true
    cases hgw : goodWord w
    · rfl
    · exact absurd hgw g
theorem vx_c {args : Array Value} {s : State} {w : Cond} {B : List Cond} (h : w.before args s = true) (t : ∀ w ∈ B, w.before args s = true) : ∀ w' ∈ w :: B, w'.before args s = true := fun w' h' => (List.mem_cons.mp h').elim (fun e => by rw [e]; exact h) (t w')
theorem vx_n {args : Array Value} {s : State} : ∀ w ∈ ([] : List Cond), w.before args s = true := fun _ h => nomatch h
theorem vx_own {args : Array Value} {s : State} {L : List Cond} (h1 : ∀ w ∈ L.filter vx_no, w.before args s = true)
    (hU : (Cond.isRef (.static Bundle.tN "UNASSIGNED_STACK" Bundle.steD)).before args s = true) (hN : (Cond.isRef (.static Bundle.tN "SUPPRESSED_SENTINEL" Bundle.listD)).before args s = true)
    (lU : (Cond.laysStatic Bundle.tN "UNASSIGNED_STACK" Bundle.steD).before args s = true) (lN : (Cond.laysStatic Bundle.tN "SUPPRESSED_SENTINEL" Bundle.listD).before args s = true) : ∀ w ∈ L, w.before args s = true := by
  intro w hw
  by_cases e1 : w = .isRef (.static Bundle.tN "UNASSIGNED_STACK" Bundle.steD)
  · rw [e1]; exact hU
  · by_cases e2 : w = .isRef (.static Bundle.tN "SUPPRESSED_SENTINEL" Bundle.listD)
    · rw [e2]; exact hN
    · by_cases e3 : w = .laysStatic Bundle.tN "UNASSIGNED_STACK" Bundle.steD
      · rw [e3]; exact lU
      · by_cases e4 : w = .laysStatic Bundle.tN "SUPPRESSED_SENTINEL" Bundle.listD
        · rw [e4]; exact lN
        · exact h1 w (List.mem_filter.mpr ⟨hw, by unfold vx_no; rw [decide_eq_true e1, decide_eq_true e2, decide_eq_true e3, decide_eq_true e4]; rfl⟩)
/-- where a static field lies, its class's statics cell in H -/
def vx_L (C n d : String) (A : Nat → Prop) (U : State) (H : Heap) : Prop := ∃ (c : ClassId) (k : Class) (i : Nat) (f : Field) (a : Nat) (cell : Cell), U.vm.findClass C = some c ∧ U.fieldFound? C n d = some (c, k, i, f) ∧ f.isStatic = true ∧ k.statics = some a ∧ H[a]? = some cell ∧ cell.vm.isStatics = true ∧ cell.cls = c ∧ f.slot < cell.slots.size ∧ k.staticTypes[f.slot]? = some f.type ∧ ¬ A a
theorem vx_L.moved {C n d : String} {A : Nat → Prop} {u U : State} {H : Heap} (hvm : u.vm.Alike U.vm) (h : vx_L C n d A u H) : vx_L C n d A U H := by
  obtain ⟨c, k, i, f, a, cell, h1, h2, h3, h4, h5, h6, h7, h8, h9, h10⟩ := h
  obtain ⟨k', hi', he⟩ := State.fieldFound?_setVm hvm h2
  exact ⟨c, k', i, f, a, cell, by rw [hvm.findClass]; exact h1, hi', h3, by rw [he]; exact h4, h5, h6, h7, h8, by rw [he]; exact h9, h10⟩
theorem vx_L.kept {C n d : String} {A : Nat → Prop} {U : State} {H H1 : Heap} (h : vx_L C n d A U H) (hq : ∀ a : Nat, a < H.size → ¬ A a → H1[a]? = H[a]?) : vx_L C n d A U H1 := by
  obtain ⟨c, k, i, f, a, cell, h1, h2, h3, h4, h5, h6, h7, h8, h9, h10⟩ := h
  exact ⟨c, k, i, f, a, cell, h1, h2, h3, h4, by rw [hq a (Array.getElem?_eq_some_iff.mp h5).1 h10]; exact h5, h6, h7, h8, h9, h10⟩
theorem vx_L.narrow {C n d : String} {A B : Nat → Prop} {U : State} {H : Heap} (h : vx_L C n d A U H) (hAB : ∀ q, B q → A q) : vx_L C n d B U H := by
  obtain ⟨c, k, i, f, a, cell, h1, h2, h3, h4, h5, h6, h7, h8, h9, h10⟩ := h
  exact ⟨c, k, i, f, a, cell, h1, h2, h3, h4, h5, h6, h7, h8, h9, fun z => h10 (hAB _ z)⟩
theorem vx_L.word {C n d : String} {A : Nat → Prop} {s : State} {args : Array Value} (h : vx_L C n d A s s.heap) : (Cond.laysStatic C n d).before args s = true := by
  obtain ⟨c, k, i, f, a, cell, h1, h2, h3, h4, h5, h6, h7, h8, h9, -⟩ := h
  show (Cond.laysStatic C n d).holds args s none s [] = true
  exact Cond.laysStatic_of h1 h2 h3 h4 h5 h6 h7 h8 h9
/-- .. and what it holds: null or some reference -/
def vx_Zq (C n d : String) (A : Nat → Prop) (U : State) (H : Heap) : Prop := va_Zq C n d A U H ∧ vx_L C n d A U H
theorem vx_Zq.moved {C n d : String} {A : Nat → Prop} {u U : State} {H : Heap} (hvm : u.vm.Alike U.vm) (h : vx_Zq C n d A u H) : vx_Zq C n d A U H := ⟨va_Zq.moved hvm h.1, vx_L.moved hvm h.2⟩
theorem vx_Zq.kept {C n d : String} {A : Nat → Prop} {U : State} {H H1 : Heap} (h : vx_Zq C n d A U H) (hq : ∀ a : Nat, a < H.size → ¬ A a → H1[a]? = H[a]?) : vx_Zq C n d A U H1 := ⟨va_Zq.kept h.1 hq, vx_L.kept h.2 hq⟩
theorem vx_Zq.narrow {C n d : String} {A B : Nat → Prop} {U : State} {H : Heap} (h : vx_Zq C n d A U H) (hAB : ∀ q, B q → A q) : vx_Zq C n d B U H := ⟨va_Zq.narrow h.1 hAB, vx_L.narrow h.2 hAB⟩
theorem vx_Zqof {args : Array Value} {s : State} {C n d : String} {A : Nat → Prop} (hl : (Cond.laysStatic C n d).before args s = true) (hini : (Cond.initialized C).before args s = true) (h : (Cond.isRef (.static C n d)).before args s = true) (hA : ∀ a : Nat, a < s.heap.size → ¬ A a) : vx_Zq C n d A s s.heap := by
  refine ⟨va_Zqof hl hini h hA, ?_⟩
  obtain ⟨c, k, i, f, a, cell, h1, h2, h3, h4, h5, h6, h7, h8, h9⟩ := Cond.laysStatic_spec hl
  exact ⟨c, k, i, f, a, cell, h1, h2, h3, h4, h5, h6, h7, h8, h9, hA a (Array.getElem?_eq_some_iff.mp h5).1⟩
theorem vx_isRef {C n d : String} {v : Value} {A : Nat → Prop} {s : State} {args : Array Value} (h : va_Z C n d v A s s.heap) (hv : v.isRef = true) : (Cond.isRef (.static C n d)).before args s = true := by
  obtain ⟨cf, kf, fi, f, a, cell, h1, h2, h3, h4, h5, h6, h7, -⟩ := h
  have he : (Term.static C n d).eval args s none [] s = some v := by
    simp [Term.eval, State.fieldNamed?, h1, h2, h4, h5, h6, h7]
  simp only [Cond.before, Cond.holds, Cond.value, he]
  cases v <;> simp_all [Value.isRef]
theorem vx_isRefq {C n d : String} {A : Nat → Prop} {s : State} {args : Array Value} (h : va_Zq C n d A s s.heap) : (Cond.isRef (.static C n d)).before args s = true := by
  rcases h with h | ⟨t, h⟩
  · exact vx_isRef h rfl
  · exact vx_isRef h rfl
/-- the same frame, seen from here: as if the method were called anew in this heap -/
theorem vx_rebase {T : State} (X : Stand p l e R s m args below meth c T locs cells slots) {R' : Room} (hf : R'.frames ≤ R.frames) (hl : R'.locals ≤ R.locals) (hc : cells + R'.cells ≤ R.cells) (hs : slots + R'.slots ≤ R.slots) :
    Stand p l e R' ((T.setVm s.vm).setFrames (.invoking m args :: below)) m args below meth c T [] 0 0 := by
  have htop : (T.setVm s.vm).topJava?.isSome := X.here.top
  have hF : ((T.setVm s.vm).setFrames (.invoking m args :: below)).frames = .invoking m args :: below := State.frames_setFrames _ (State.cur_lt_of_top htop)
  obtain ⟨g₀, hg0⟩ := Option.isSome_iff_exists.mp htop
  obtain ⟨r, hr⟩ := State.topJava?_eq_some.mp hg0
  have hl9 : e.platform.stackLimits (T.setVm s.vm).me = e.platform.stackLimits s.me := X.limits
  have hb9 : (T.setVm s.vm).me.stackBytes = s.me.stackBytes := X.bytes
  refine ⟨X.admits, X.cas, X.clock, hF, ?_, X.hears, X.method, X.code, X.here, X.tail, X.warmed, ?_, ?_, ?_⟩
  · have h := X.room
    have hU : ((T.setVm s.vm).setFrames (.invoking m args :: below)).localsInUse = s.localsInUse := by
      rw [State.localsInUse_invoking hF (meth := meth) (c := c) X.method X.code, State.localsInUse_invoking X.frames X.method X.code]
    simp only [State.hasRoom, Bool.and_eq_true, decide_eq_true_eq] at h ⊢
    obtain ⟨⟨⟨⟨h1, h2, h3, h4, h5, h6⟩, h7⟩, h8⟩, h9⟩ := h
    rw [X.frames, List.length_cons] at h2 h3
    have q1 := X.heapSize
    have q2 := X.used
    simp only [hF, hU, List.length_cons, State.stackLimits_setFrames, State.stackBytes_setFrames, hl9, hb9]
    refine ⟨⟨⟨⟨by omega, by omega, by omega, by omega, by omega, h6⟩, ?_⟩, ?_⟩, X.book⟩
    · show T.heap.size + R'.cells ≤ e.platform.maxCells
      omega
    · show T.slotsUsed + R'.slots ≤ e.platform.maxSlots
      omega
  · rw [State.stackLimits_setFrames]; rfl
  · rw [State.stackBytes_setFrames]; rfl
  · refine ⟨?_, Nat.le_refl _, Nat.le_refl _, ?_, ?_, fun a c9 h9 => ⟨c9, h9, rfl, rfl, fun _ _ => rfl⟩⟩
    · obtain ⟨t, ht, -⟩ := State.frames_cons hr
      show T.setVm s.vm = { ((T.setVm s.vm).setFrames (.invoking m args :: below)).setFrames (T.setVm s.vm).frames with heap := T.heap, slotsUsed := T.slotsUsed }
      rw [State.setFrames_setFrames, State.setFrames_self ht]
      rfl
    · show T.slotsUsed = T.slotsUsed + ((T.heap.toList.drop T.heap.size).map (·.slots.size)).sum
      rw [List.drop_eq_nil_of_le (Nat.le_of_eq Array.length_toList)]
      rfl
    · show ((T.heap.toList.drop T.heap.size).map (·.slots.size)).sum ≤ 0
      rw [List.drop_eq_nil_of_le (Nat.le_of_eq Array.length_toList)]
      exact Nat.le_refl _
/-- 'throw new E()': new; dup; invokespecial; athrow -/
theorem vx_throw0 {cc : ByteArray} {pc : Nat} (hexec : p.tables.exec = Jvm.exec) (hb : c.code = cc) (hl : l.stackTraces = false) {own cls : String} {names : List String} {ik ic mc ms : Nat} {A : Nat → Prop}
    (hown : s.vm.findClass own = some m.cls) (hcls : Bundle.fit cls = true) (hnames : ∀ n ∈ names, Bundle.fit n = true)
    (hk : (Cond.classLink own ik cls).before args s = true) (hini : (Cond.initialized cls).before args s = true) (hat : ∀ w ∈ vx_at0 own ic cls names, w.before args s = true)
    (hgood : ∀ w ∈ Cond.classLink own ik cls :: Cond.initialized cls :: vx_at0 own ic cls names, vx_ot w = true)
    (hU : vx_Zq Bundle.tN "UNASSIGNED_STACK" Bundle.steD A s s.heap) (hN : vx_Zq Bundle.tN "SUPPRESSED_SENTINEL" Bundle.listD A s s.heap) (hS : va_S A s.heap H locs) (hsize : ls.size = c.maxLocals)
    (d0 : decode cc pc = .ok (.new ik, 3)) (d3 : decode cc (pc + 3) = .ok (.dup, 1)) (d4 : decode cc (pc + 4) = .ok (.invokespecial ic, 3)) (d7 : decode cc (pc + 7) = .ok (.athrow, 1))
    (hout : ∀ x ∈ c.exceptionTable.toList, covers x (pc + 7) = false)
    (hRframes : names.length + 3 < R.frames) (hRlocals : (rest.map fun v => v.category).sum + (13 * (names.length + 1) + 42) ≤ R.locals) (hRcells : cells + 1 ≤ R.cells) (hRslots : slots + 6 ≤ R.slots) (hlocks : meth.locks = false)
    (hx : ∀ t : State, s.vm.Alike t.vm → H.size ≤ t.heap.size → (∀ q : Nat, q < H.size → t.heap[q]? = H[q]?) → XC cls s t)
    (hf : ∀ z ∈ locs, free z.base) (hc : cells + 1 ≤ mc) (hs : slots + 6 ≤ ms) :
    W p l e R s m args below meth c H locs cells slots (vx_MQ below Qc XC args s mc ms free) (F0 m pc ls rest) := by
  intro T hT X
  have htr : e.platform.stackTraces = false := (show e.platform.stackTraces = l.stackTraces by rw [X.admits.platform]).trans hl
  have Y := vx_rebase X (R' := { frames := R.frames, locals := R.locals, cells := 1, slots := 6 }) (Nat.le_refl _) (Nat.le_refl _) hRcells hRslots
  obtain ⟨s', hA⟩ : ∃ z, z = (T.setVm s.vm).setFrames (.invoking m args :: below) := ⟨_, rfl⟩
  rw [← hA] at Y
  have hvm : s'.vm = s.vm := by rw [hA]; rfl
  have hhp : s'.heap = H := by rw [hA]; exact hT
  have hW0 : s.WarmedH s'.vm := by rw [hvm]; exact State.WarmedH.refl s
  have hat' : ∀ w ∈ vx_at0 own ic cls names, w.before args s' = true := fun w hw => vx_ot_at hW0 hvm.symm (hgood w (List.mem_cons_of_mem _ (List.mem_cons_of_mem _ hw))) (hat w hw)
  have hk' : (Cond.classLink own ik cls).before args s' = true := vx_ot_at hW0 hvm.symm (hgood _ List.mem_cons_self) hk
  have hini' : (Cond.initialized cls).before args s' = true := vx_ot_at hW0 hvm.symm (hgood _ (List.mem_cons_of_mem _ List.mem_cons_self)) hini
  have hU' : vx_Zq Bundle.tN "UNASSIGNED_STACK" Bundle.steD A s' s'.heap := by rw [hhp]; exact vx_Zq.moved hW0.alike (hU.kept hS.2.1)
  have hN' : vx_Zq Bundle.tN "SUPPRESSED_SENTINEL" Bundle.listD A s' s'.heap := by rw [hhp]; exact vx_Zq.moved hW0.alike (hN.kept hS.2.1)
  have h : ∀ w ∈ Bundle.ownAtoms0 own ic cls names, w.before args s' = true := vx_own hat' (vx_isRefq hU'.1) (vx_isRefq hN'.1) hU'.2.word hN'.2.word
  have hown' : s'.vm.findClass own = some m.cls := by rw [hvm]; exact hown
  have hins : (Cond.instantiable cls 6).before args s' = true := h _ (by simp [Bundle.ownAtoms0])
  obtain ⟨vm₁, cX, kX, hfX, hkX, -, -, X₁, st1⟩ := Y.newCold hexec (own := own) (C := cls) (index := ik) (n := 6) hown' hk' hins hini'
    (g := F0 m pc ls rest) rfl (by rw [hb]; exact d0) (Nat.le_refl _) (Nat.le_refl _)
  generalize hT1 : (T.setVm vm₁).pushCell { cls := cX, slots := kX.instanceTypes.map defaultValue, vm := .none } = T1 at X₁ st1
  have hcat : (Value.ref T.heap.size).category = 1 := rfl
  have hcellA : T1.heap[T.heap.size]? = some (freshCell cX kX) := by rw [← hT1]; exact State.heap_pushCell_size _ _
  have d3' : decode c.code (pc + 3) = .ok (.dup, 1) := by rw [hb]; exact d3
  obtain ⟨U, hsteps, hrun, hend, hW, hsame, ce, hce, hO⟩ := X₁.ctorThrow0 hexec htr (own := own) (cls := cls) (names := names) (ic := ic) hown' hcls hnames h (fun x hx => nomatch hx) hfX hkX hcellA (by rw [hhp, hT]; exact Nat.le_refl _)
    (g := { method := m, pc := pc + 4, locals := ls, stack := .ref T.heap.size :: .ref T.heap.size :: rest, locked := none }) rfl hsize rfl rfl (rest := rest) rfl
    (by rw [hb]; exact d4) (by rw [hb]; exact d7) hout hRframes (by simp only [List.map_cons, List.sum_cons, hcat]; omega) hlocks
  obtain ⟨f1, f2⟩ := vx_frame hsame
  rw [hhp] at f1 f2
  have hWs : s.WarmedH U.vm := State.WarmedH.trans hW0 hW
  have hcl : s.vm.findClass cls = some ce.cls := by
    have h9 := hO.cls
    rw [hvm] at h9
    exact h9
  have hall : s.sameButNew ({ U with vm := s.vm } : State) locs mc ms := by
    subst hA
    obtain ⟨e1, e2⟩ := hsame
    rw [State.setFrames_setFrames] at e1
    have h2 : (T.setVm s.vm).sameButNew ({ U with vm := s.vm } : State) [] (0 + 1) (0 + 6) := ⟨e1, e2⟩
    have h3 := X.same.trans h2
    rw [List.append_nil] at h3
    exact h3.mono hc hs
  refine ⟨U, ?_, .threw T.heap.size, hrun, hend, Or.inr ⟨T.heap.size, rfl, cls, ce, locs, hx U hWs.alike f1 (fun q hq => f2 q hq (fun z hz => nomatch hz)), hce, hO.vm, hcl, hWs, hall, hf⟩⟩
  refine st1 _ ?_
  show Steps p.tables e below (T1.setTop { method := m, pc := pc + 3, locals := ls, stack := .ref T.heap.size :: rest, locked := none }) _
  jvm_step X₁.here [X₁.here.top, hexec, d3', Value.category]
  exact hsteps
/-- 'throw new E("text")': new; dup; ldc; invokespecial; athrow -/
theorem vx_throwS {cc : ByteArray} {pc : Nat} (hexec : p.tables.exec = Jvm.exec) (hb : c.code = cc) (hl : l.stackTraces = false) {own cls text : String} {names : List String} {ik is ic mc ms sa : Nat} {A : Nat → Prop}
    (hown : s.vm.findClass own = some m.cls) (hcls : Bundle.fit cls = true) (hnames : ∀ n ∈ names, Bundle.fit n = true)
    (hk : (Cond.classLink own ik cls).before args s = true) (hini : (Cond.initialized cls).before args s = true) (hstr : vk_R own is text sa s) (hat : ∀ w ∈ vx_atS own ic cls names, w.before args s = true)
    (hgood : ∀ w ∈ Cond.classLink own ik cls :: Cond.initialized cls :: vx_atS own ic cls names, vx_ot w = true)
    (hU : vx_Zq Bundle.tN "UNASSIGNED_STACK" Bundle.steD A s s.heap) (hN : vx_Zq Bundle.tN "SUPPRESSED_SENTINEL" Bundle.listD A s s.heap) (hS : va_S A s.heap H locs) (hsize : ls.size = c.maxLocals)
    (d0 : decode cc pc = .ok (.new ik, 3)) (d3 : decode cc (pc + 3) = .ok (.dup, 1)) (d4 : decode cc (pc + 4) = .ok (.ldc is, 2)) (d6 : decode cc (pc + 6) = .ok (.invokespecial ic, 3)) (d9 : decode cc (pc + 9) = .ok (.athrow, 1))
    (hout : ∀ x ∈ c.exceptionTable.toList, covers x (pc + 9) = false)
    (hRframes : names.length + 3 < R.frames) (hRlocals : (rest.map fun v => v.category).sum + (13 * (names.length + 1) + 43) ≤ R.locals) (hRcells : cells + 1 ≤ R.cells) (hRslots : slots + 6 ≤ R.slots) (hlocks : meth.locks = false)
    (hx : ∀ t : State, s.vm.Alike t.vm → H.size ≤ t.heap.size → (∀ q : Nat, q < H.size → t.heap[q]? = H[q]?) → XC cls s t)
    (hf : ∀ z ∈ locs, free z.base) (hc : cells + 1 ≤ mc) (hs : slots + 6 ≤ ms) :
    W p l e R s m args below meth c H locs cells slots (vx_MQ below Qc XC args s mc ms free) (F0 m pc ls rest) := by
  intro T hT X
  have htr : e.platform.stackTraces = false := (show e.platform.stackTraces = l.stackTraces by rw [X.admits.platform]).trans hl
  have Y := vx_rebase X (R' := { frames := R.frames, locals := R.locals, cells := 1, slots := 6 }) (Nat.le_refl _) (Nat.le_refl _) hRcells hRslots
  obtain ⟨s', hA⟩ : ∃ z, z = (T.setVm s.vm).setFrames (.invoking m args :: below) := ⟨_, rfl⟩
  rw [← hA] at Y
  have hvm : s'.vm = s.vm := by rw [hA]; rfl
  have hhp : s'.heap = H := by rw [hA]; exact hT
  have hW0 : s.WarmedH s'.vm := by rw [hvm]; exact State.WarmedH.refl s
  have hat' : ∀ w ∈ vx_atS own ic cls names, w.before args s' = true := fun w hw => vx_ot_at hW0 hvm.symm (hgood w (List.mem_cons_of_mem _ (List.mem_cons_of_mem _ hw))) (hat w hw)
  have hk' : (Cond.classLink own ik cls).before args s' = true := vx_ot_at hW0 hvm.symm (hgood _ List.mem_cons_self) hk
  have hini' : (Cond.initialized cls).before args s' = true := vx_ot_at hW0 hvm.symm (hgood _ (List.mem_cons_of_mem _ List.mem_cons_self)) hini
  have hU' : vx_Zq Bundle.tN "UNASSIGNED_STACK" Bundle.steD A s' s'.heap := by rw [hhp]; exact vx_Zq.moved hW0.alike (hU.kept hS.2.1)
  have hN' : vx_Zq Bundle.tN "SUPPRESSED_SENTINEL" Bundle.listD A s' s'.heap := by rw [hhp]; exact vx_Zq.moved hW0.alike (hN.kept hS.2.1)
  have h : ∀ w ∈ Bundle.ownAtoms own ic cls names, w.before args s' = true := vx_own hat' (vx_isRefq hU'.1) (vx_isRefq hN'.1) hU'.2.word hN'.2.word
  have hown' : s'.vm.findClass own = some m.cls := by rw [hvm]; exact hown
  have hins : (Cond.instantiable cls 6).before args s' = true := h _ (by simp [Bundle.ownAtoms])
  obtain ⟨vm₁, cX, kX, hfX, hkX, -, -, X₁, st1⟩ := Y.newCold hexec (own := own) (C := cls) (index := ik) (n := 6) hown' hk' hins hini'
    (g := F0 m pc ls rest) rfl (by rw [hb]; exact d0) (Nat.le_refl _) (Nat.le_refl _)
  generalize hT1 : (T.setVm vm₁).pushCell { cls := cX, slots := kX.instanceTypes.map defaultValue, vm := .none } = T1 at X₁ st1
  have hcat : (Value.ref T.heap.size).category = 1 := rfl
  have hcellA : T1.heap[T.heap.size]? = some (freshCell cX kX) := by rw [← hT1]; exact State.heap_pushCell_size _ _
  have d3' : decode c.code (pc + 3) = .ok (.dup, 1) := by rw [hb]; exact d3
  have d4' : decode c.code (pc + 4) = .ok (.ldc is, 2) := by rw [hb]; exact d4
  have hstr' : vk_R own is text sa s' := vk_R.warm hW0 hstr
  obtain ⟨U, hsteps, hrun, hend, hW, hsame, ce, hce, hO⟩ := X₁.ctorThrowS hexec htr (own := own) (cls := cls) (names := names) (ic := ic) hown' hcls hnames h (fun x hx => nomatch hx) hfX hkX hcellA (by rw [hhp, hT]; exact Nat.le_refl _) (msg := .ref sa) rfl
    (g := { method := m, pc := pc + 6, locals := ls, stack := .ref sa :: .ref T.heap.size :: .ref T.heap.size :: rest, locked := none }) rfl hsize rfl rfl (rest := rest) rfl
    (by rw [hb]; exact d6) (by rw [hb]; exact d9) hout hRframes (by simp only [List.map_cons, List.sum_cons, hcat]; omega) hlocks
  obtain ⟨f1, f2⟩ := vx_frame hsame
  rw [hhp] at f1 f2
  have hWs : s.WarmedH U.vm := State.WarmedH.trans hW0 hW
  have hcl : s.vm.findClass cls = some ce.cls := by
    have h9 := hO.cls
    rw [hvm] at h9
    exact h9
  have hall : s.sameButNew ({ U with vm := s.vm } : State) locs mc ms := by
    subst hA
    obtain ⟨e1, e2⟩ := hsame
    rw [State.setFrames_setFrames] at e1
    have h2 : (T.setVm s.vm).sameButNew ({ U with vm := s.vm } : State) [] (0 + 1) (0 + 6) := ⟨e1, e2⟩
    have h3 := X.same.trans h2
    rw [List.append_nil] at h3
    exact h3.mono hc hs
  refine ⟨U, ?_, .threw T.heap.size, hrun, hend, Or.inr ⟨T.heap.size, rfl, cls, ce, locs, hx U hWs.alike f1 (fun q hq => f2 q hq (fun z hz => nomatch hz)), hce, hO.vm, hcl, hWs, hall, hf⟩⟩
  refine st1 _ ?_
  show Steps p.tables e below (T1.setTop { method := m, pc := pc + 3, locals := ls, stack := .ref T.heap.size :: rest, locked := none }) _
  jvm_step X₁.here [X₁.here.top, hexec, d3', Value.category]
  exact X₁.ldcString hexec (own := own) (text := text) (index := is) (a := sa) hown' hstr'.1 hstr'.2
    (g := { method := m, pc := pc + 4, locals := ls, stack := .ref T.heap.size :: .ref T.heap.size :: rest, locked := none }) rfl d4' _ hsteps
/-- 'throw new E("text")', the text by a wide index -/
theorem vx_throwSW {cc : ByteArray} {pc : Nat} (hexec : p.tables.exec = Jvm.exec) (hb : c.code = cc) (hl : l.stackTraces = false) {own cls text : String} {names : List String} {ik is ic mc ms sa : Nat} {A : Nat → Prop}
    (hown : s.vm.findClass own = some m.cls) (hcls : Bundle.fit cls = true) (hnames : ∀ n ∈ names, Bundle.fit n = true)
    (hk : (Cond.classLink own ik cls).before args s = true) (hini : (Cond.initialized cls).before args s = true) (hstr : vk_R own is text sa s) (hat : ∀ w ∈ vx_atS own ic cls names, w.before args s = true)
    (hgood : ∀ w ∈ Cond.classLink own ik cls :: Cond.initialized cls :: vx_atS own ic cls names, vx_ot w = true)
    (hU : vx_Zq Bundle.tN "UNASSIGNED_STACK" Bundle.steD A s s.heap) (hN : vx_Zq Bundle.tN "SUPPRESSED_SENTINEL" Bundle.listD A s s.heap) (hS : va_S A s.heap H locs) (hsize : ls.size = c.maxLocals)
    (d0 : decode cc pc = .ok (.new ik, 3)) (d3 : decode cc (pc + 3) = .ok (.dup, 1)) (d4 : decode cc (pc + 4) = .ok (.ldc_w is, 3)) (d7 : decode cc (pc + 7) = .ok (.invokespecial ic, 3)) (d10 : decode cc (pc + 10) = .ok (.athrow, 1))
    (hout : ∀ x ∈ c.exceptionTable.toList, covers x (pc + 10) = false)
    (hRframes : names.length + 3 < R.frames) (hRlocals : (rest.map fun v => v.category).sum + (13 * (names.length + 1) + 43) ≤ R.locals) (hRcells : cells + 1 ≤ R.cells) (hRslots : slots + 6 ≤ R.slots) (hlocks : meth.locks = false)
    (hx : ∀ t : State, s.vm.Alike t.vm → H.size ≤ t.heap.size → (∀ q : Nat, q < H.size → t.heap[q]? = H[q]?) → XC cls s t)
    (hf : ∀ z ∈ locs, free z.base) (hc : cells + 1 ≤ mc) (hs : slots + 6 ≤ ms) :
    W p l e R s m args below meth c H locs cells slots (vx_MQ below Qc XC args s mc ms free) (F0 m pc ls rest) := by
  intro T hT X
  have htr : e.platform.stackTraces = false := (show e.platform.stackTraces = l.stackTraces by rw [X.admits.platform]).trans hl
  have Y := vx_rebase X (R' := { frames := R.frames, locals := R.locals, cells := 1, slots := 6 }) (Nat.le_refl _) (Nat.le_refl _) hRcells hRslots
  obtain ⟨s', hA⟩ : ∃ z, z = (T.setVm s.vm).setFrames (.invoking m args :: below) := ⟨_, rfl⟩
  rw [← hA] at Y
  have hvm : s'.vm = s.vm := by rw [hA]; rfl
  have hhp : s'.heap = H := by rw [hA]; exact hT
  have hW0 : s.WarmedH s'.vm := by rw [hvm]; exact State.WarmedH.refl s
  have hat' : ∀ w ∈ vx_atS own ic cls names, w.before args s' = true := fun w hw => vx_ot_at hW0 hvm.symm (hgood w (List.mem_cons_of_mem _ (List.mem_cons_of_mem _ hw))) (hat w hw)
  have hk' : (Cond.classLink own ik cls).before args s' = true := vx_ot_at hW0 hvm.symm (hgood _ List.mem_cons_self) hk
  have hini' : (Cond.initialized cls).before args s' = true := vx_ot_at hW0 hvm.symm (hgood _ (List.mem_cons_of_mem _ List.mem_cons_self)) hini
  have hU' : vx_Zq Bundle.tN "UNASSIGNED_STACK" Bundle.steD A s' s'.heap := by rw [hhp]; exact vx_Zq.moved hW0.alike (hU.kept hS.2.1)
  have hN' : vx_Zq Bundle.tN "SUPPRESSED_SENTINEL" Bundle.listD A s' s'.heap := by rw [hhp]; exact vx_Zq.moved hW0.alike (hN.kept hS.2.1)
  have h : ∀ w ∈ Bundle.ownAtoms own ic cls names, w.before args s' = true := vx_own hat' (vx_isRefq hU'.1) (vx_isRefq hN'.1) hU'.2.word hN'.2.word
  have hown' : s'.vm.findClass own = some m.cls := by rw [hvm]; exact hown
  have hins : (Cond.instantiable cls 6).before args s' = true := h _ (by simp [Bundle.ownAtoms])
  obtain ⟨vm₁, cX, kX, hfX, hkX, -, -, X₁, st1⟩ := Y.newCold hexec (own := own) (C := cls) (index := ik) (n := 6) hown' hk' hins hini'
    (g := F0 m pc ls rest) rfl (by rw [hb]; exact d0) (Nat.le_refl _) (Nat.le_refl _)
  generalize hT1 : (T.setVm vm₁).pushCell { cls := cX, slots := kX.instanceTypes.map defaultValue, vm := .none } = T1 at X₁ st1
  have hcat : (Value.ref T.heap.size).category = 1 := rfl
  have hcellA : T1.heap[T.heap.size]? = some (freshCell cX kX) := by rw [← hT1]; exact State.heap_pushCell_size _ _
  have d3' : decode c.code (pc + 3) = .ok (.dup, 1) := by rw [hb]; exact d3
  have d4' : decode c.code (pc + 4) = .ok (.ldc_w is, 3) := by rw [hb]; exact d4
  have hstr' : vk_R own is text sa s' := vk_R.warm hW0 hstr
  obtain ⟨U, hsteps, hrun, hend, hW, hsame, ce, hce, hO⟩ := X₁.ctorThrowS hexec htr (own := own) (cls := cls) (names := names) (ic := ic) hown' hcls hnames h (fun x hx => nomatch hx) hfX hkX hcellA (by rw [hhp, hT]; exact Nat.le_refl _) (msg := .ref sa) rfl
    (g := { method := m, pc := pc + 7, locals := ls, stack := .ref sa :: .ref T.heap.size :: .ref T.heap.size :: rest, locked := none }) rfl hsize rfl rfl (rest := rest) rfl
    (by rw [hb]; exact d7) (by rw [hb]; exact d10) hout hRframes (by simp only [List.map_cons, List.sum_cons, hcat]; omega) hlocks
  obtain ⟨f1, f2⟩ := vx_frame hsame
  rw [hhp] at f1 f2
  have hWs : s.WarmedH U.vm := State.WarmedH.trans hW0 hW
  have hcl : s.vm.findClass cls = some ce.cls := by
    have h9 := hO.cls
    rw [hvm] at h9
    exact h9
  have hall : s.sameButNew ({ U with vm := s.vm } : State) locs mc ms := by
    subst hA
    obtain ⟨e1, e2⟩ := hsame
    rw [State.setFrames_setFrames] at e1
    have h2 : (T.setVm s.vm).sameButNew ({ U with vm := s.vm } : State) [] (0 + 1) (0 + 6) := ⟨e1, e2⟩
    have h3 := X.same.trans h2
    rw [List.append_nil] at h3
    exact h3.mono hc hs
  refine ⟨U, ?_, .threw T.heap.size, hrun, hend, Or.inr ⟨T.heap.size, rfl, cls, ce, locs, hx U hWs.alike f1 (fun q hq => f2 q hq (fun z hz => nomatch hz)), hce, hO.vm, hcl, hWs, hall, hf⟩⟩
  refine st1 _ ?_
  show Steps p.tables e below (T1.setTop { method := m, pc := pc + 3, locals := ls, stack := .ref T.heap.size :: rest, locked := none }) _
  jvm_step X₁.here [X₁.here.top, hexec, d3', Value.category]
  exact X₁.ldcStringW hexec (own := own) (text := text) (index := is) (a := sa) hown' hstr'.1 hstr'.2
    (g := { method := m, pc := pc + 4, locals := ls, stack := .ref T.heap.size :: .ref T.heap.size :: rest, locked := none }) rfl d4' _ hsteps
end Ends
section Bodies
variable {l : Launch}
theorem vx_ofW {y : MethodName} {ws ws' : List Cond} {rm : Room} {Pc : Array Value → State → Prop} {Qc : Array Value → State → Outcome → State → Prop} {XC : String → State → State → Prop} {mc ms : Nat} {free : Addr → Prop} {cc : ByteArray} {maxL : Nat} {ret : Option FieldType}
    (hy : plainName y.cls = true) (hw : ws = Cond.code y cc maxL ret :: ws')
    (body : ∀ p e s m args below meth c s₁, BodyLoose p l y (headSpec ws rm) cc maxL ret e s m args below meth c s₁ → c.maxLocals = maxL → (∀ x ∈ c.exceptionTable.toList, False) → Pc args s →
      W p l e (headSpec ws rm).room s m args below meth c s.heap [] 0 0 (vx_MQ below Qc XC args s mc ms free) (entryFrame m args maxL)) : vx_Met l y ws rm Pc Qc XC mc ms free := by
  refine MetFree.of_bodyS (code := cc) (maxLocals := maxL) (ret := ret) hy ?_ ?_
  · intro args s m h hn
    obtain ⟨meth, c, h1, h2, h3, h4, h5, h6, -, -⟩ := Cond.code_spec hn (atoms_spec (ws := ws) h _ (by rw [hw]; exact List.mem_cons_self))
    exact ⟨meth, c, h1, h2, h3, h4, h5, h6⟩
  · intro p e s m args below meth c s₁ B hml hP _
    have hh0 : s₁.heap = s.heap := by rw [B.state]; rfl
    have ht : ∀ x ∈ c.exceptionTable.toList, False := by
      obtain ⟨meth9, c9, h1, h2, -, -, -, -, h7, -⟩ := Cond.code_spec B.named (atoms_spec (ws := ws) B.pre _ (by rw [hw]; exact List.mem_cons_self))
      cases Option.some.inj (h1.symm.trans B.method)
      cases Option.some.inj (h2.symm.trans (Stand.of_body B).code)
      intro x hx
      rw [Array.isEmpty_iff.mp h7] at hx
      cases hx
    obtain ⟨t, a1, o, b1, b2, b3⟩ := body p e s m args below meth c s₁ B hml ht hP s₁ hh0 (Stand.of_body B)
    exact ⟨t, o, a1, b1, b2, b3⟩
/-- the table of a body with handlers -/
theorem vx_table {p : Program} {x y : MethodName} {S : Spec} {cc bytes : ByteArray} {maxL maxL' : Nat} {ret ret' : Option FieldType} {e : Env} {s s₁ : State} {m : MethodId} {args : Array Value} {below : List Frame} {meth : Method} {c : Code} {hh : List (Nat × Nat × Nat × Nat)}
    (B : BodyLoose p l y S cc maxL ret e s m args below meth c s₁) (h : (Cond.codeWith y bytes maxL' ret' hh).before args s = true) : c.exceptionTable.toList = tableOf hh := by
  obtain ⟨m9, meth9, c9, hn9, h1, h2, -, -, h6, -⟩ := Cond.codeWith_spec h
  cases Option.some.inj (hn9.symm.trans B.named)
  cases Option.some.inj (h1.symm.trans B.method)
  cases Option.some.inj (h2.symm.trans (Stand.of_body B).code)
  rw [← h6, table_eq]
end Bodies
end VXA
/-! ===== END ===== -/
/-! ===== BEGIN a static call of a method with an exception table ===== -/
section VXS
variable {p : Program} {l : Launch} {e : Env} {R : Room} {s : State} {m : MethodId} {args : Array Value} {below : List Frame} {meth : Method} {c : Code} {T : State} {H : Heap} {locs : List Loc} {cells slots : Nat}
abbrev vx_CSW (R : Room) (s : State) (args : Array Value) (own : String) (index : Nat) (y : MethodName) (bytes : ByteArray) (maxL : Nat) (ret : Option FieldType) (hh : List (Nat × Nat × Nat × Nat)) (ws : List Cond) (rm : Room) (mc ms n : Nat) : Prop :=
  (rm.cells = mc ∧ rm.slots = ms ∧ rm.frames + 1 ≤ R.frames ∧ 8 + (maxL + 11) + rm.locals ≤ R.locals ∧ (∀ w ∈ ws, ∀ (a' : Array Value) (U : State), s.WarmedH U.vm → w.before a' U = true) ∧ Cond.codeWith y bytes maxL ret hh ∈ ws) ∧
  (Cond.codeWith y bytes maxL ret hh).before args s = true ∧ (Cond.initialized y.cls).before args s = true ∧ (y.cls ≠ "java/lang/invoke/MethodHandle" ∧ y.cls ≠ "java/lang/invoke/VarHandle") ∧
  (∀ sig, parseMethodDescriptor y.desc = some sig → n = sig.parameters.length) ∧ (Cond.methodLink own index y).before args s = true ∧ (Cond.static y).before args s = true
theorem vx_cwSW {own : String} {index maxL mc ms : Nat} {y : MethodName} {bytes : ByteArray} {ret : Option FieldType} {hh : List (Nat × Nat × Nat × Nat)} {Ts ws ws' : List Cond} {rm : Room} (n : Nat) (ht : ∀ w ∈ Ts, w.before args s = true) (hT : GoodIn Ts (va_wsS own index y ws)) (hw : ws = Cond.codeWith y bytes maxL ret hh :: ws') (hrc : rm.cells = mc) (hrs : rm.slots = ms)
    (hd : y.cls ≠ "java/lang/invoke/MethodHandle" ∧ y.cls ≠ "java/lang/invoke/VarHandle" ∧ (parseMethodDescriptor y.desc).map (fun d => d.parameters.length) = some n) (hR : rm.frames + 1 ≤ R.frames ∧ 8 + (maxL + 11) + rm.locals ≤ R.locals) :
    vx_CSW R s args own index y bytes maxL ret hh ws rm mc ms n := by
  have ok : ∀ w ∈ va_wsS own index y ws, w.before args s = true := fun w h => ht w (hT w h).1
  have hG : GoodIn Ts ws := fun w h => hT w (by unfold va_wsS; exact List.mem_append_right _ h)
  have hc : Cond.codeWith y bytes maxL ret hh ∈ ws := by rw [hw]; exact List.mem_cons_self
  refine ⟨⟨hrc, hrs, hR.1, hR.2, pay_in ht hG, hc⟩, ht _ (hG _ hc).1, ok _ (by simp [va_wsS]), ⟨hd.1, hd.2.1⟩, fun sig h => ?_, ok _ (by simp [va_wsS]), ok _ (by simp [va_wsS])⟩
  have h2 := hd.2.2
  rw [h] at h2
  exact (Option.some.inj h2).symm
theorem vx_callSW (X : Stand p l e R s m args below meth c T locs cells slots) (hexec : p.tables.exec = Jvm.exec) {own : String} {index : Nat} {y : MethodName} {bytes : ByteArray} {maxL : Nat} {ret : Option FieldType} {hh : List (Nat × Nat × Nat × Nat)}
    (hown : s.vm.findClass own = some m.cls) (hlink : (Cond.methodLink own index y).before args s = true) (hstat : (Cond.static y).before args s = true) (hinit : (Cond.initialized y.cls).before args s = true)
    (hcode : (Cond.codeWith y bytes maxL ret hh).before args s = true) (hy : y.cls ≠ "java/lang/invoke/MethodHandle" ∧ y.cls ≠ "java/lang/invoke/VarHandle")
    {W9 : Nat} {Pre : Pt → Array Value → Prop} {Post : Pt → Array Value → Option Value → Pt → Prop} (hK : Back l R p e below s args y 3 W9 Pre Post)
    {g : JFrame} (hg : g.method = m) (hsize : g.locals.size = c.maxLocals) {argsL rest : List Value} (hlen : ∀ sig, parseMethodDescriptor y.desc = some sig → argsL.length = sig.parameters.length)
    (hstack : g.stack = argsL.reverse ++ rest) (hW : 2 * g.monitorRoom + (rest.map fun v => v.category).sum ≤ W9) (hdg : decode c.code g.pc = .ok (.invokestatic index, 3))
    (hpre : ∀ vm₁, s.WarmedH vm₁ → Pre ⟨T.setVm vm₁, locs, cells, slots⟩ argsL.toArray) :
    ∃ (v : Option Value) (vm₁ : Vm) (B : Pt), s.WarmedH vm₁ ∧ Stand p l e R s m args below meth c B.U B.locs B.cells B.slots ∧ Post ⟨T.setVm vm₁, locs, cells, slots⟩ argsL.toArray v B ∧
      ∀ target, Steps p.tables e below (B.U.setTop { g with pc := g.pc + 3, stack := v.toList ++ rest }) target → Steps p.tables e below (T.setTop g) target := by
  obtain ⟨mk, methM, cM, hnamed, hmethM, -, -, -, -, -, -, hsigM⟩ := Cond.codeWith_spec hcode
  have hstatic : methM.isStatic = true := Cond.static_spec hnamed hmethM hstat
  obtain ⟨kP, hkP, -⟩ := className_of_methodNamed hnamed
  have hinitP : kP.init = .initialized := Cond.initialized_spec (findClass_of_methodNamed hnamed) hkP hinit
  obtain ⟨vm₁, X₁, hstep₁⟩ := X.invokestatic hexec hown hlink hnamed hmethM hstatic hkP hinitP hy (g := g) hg (argsL := argsL) (rest := rest) (hlen _ hsigM) hstack hdg
  obtain ⟨v, B, X', hpost, hsteps⟩ := hK m meth c ⟨T.setVm vm₁, locs, cells, slots⟩ { g with stack := rest } (.invokestatic index) mk argsL.toArray X₁ hg hsize hdg hW (X₁.named hnamed) (hpre vm₁ X₁.warmed)
  exact ⟨v, vm₁, B, X₁.warmed, X', hpost, fun target h => hstep₁ _ fun acts => by rw [doInvoke_state]; exact hsteps.trans h⟩
theorem vx_runSW {y : MethodName} {bytes cc : ByteArray} {maxL nL mc ms n index : Nat} {ret : Option FieldType} {hh : List (Nat × Nat × Nat × Nat)} {ws : List Cond} {rm : Room} {Pc : Array Value → State → Prop} {Qc : Array Value → State → Outcome → State → Prop} {free : Addr → Prop} {Ts : List Cond} {own : String} {As rest : List Value} {g : JFrame}
    (S : CallFix p m c cc nL s args Ts own) (hM : Met l y ws rm Pc Qc mc ms free) (cw : vx_CSW R s args own index y bytes maxL ret hh ws rm mc ms n) (hp : PreS s H Pc As)
    (hg : g.method = m) (hn : As.length = n) (hsize : g.locals.size = nL) (hstack : g.stack = As.reverse ++ rest) (hW : 2 * g.monitorRoom + (rest.map fun v => v.category).sum ≤ 8) (hdg : decode cc g.pc = .ok (.invokestatic index, 3)) (hf : cells + mc ≤ R.cells ∧ slots + ms ≤ R.slots) :
    va_Run p l e R s m args below meth c H locs cells slots mc ms g rest (Qc As.toArray) (free) := by
  obtain ⟨⟨hrc, hrs, hfr, hlo, hws, hcw⟩, hcode, hini, hy, hlen, hl, hstt⟩ := cw
  have hK : Back l R p e below s args y 3 8 (PreOf R mc ms Pc) (PostOf Qc mc ms free) := va_backW (hh := hh) (bytes := bytes) (maxL := maxL) (ret := ret) hM hp.1 hrc hrs hfr hlo hws hcw (fun a' U hW => word_at hW (Or.inl (by first | rfl | simp [Cond.onTables, Cond.keeps, Cond.steady])) hini)
  obtain ⟨hx, hb, hml, ho, -⟩ := S
  intro T hT X
  obtain ⟨v, vm₁, ⟨U', l2, c2, s2⟩, hW₁, X', ⟨g', mk, t, L, e1, e2, hq, h1, hL, h2, h3⟩, st⟩ := vx_callSW X hx (hh := hh) (bytes := bytes) (maxL := maxL) (ret := ret) ho hl hstt hini hcode hy hK hg (hsize.trans hml.symm) (argsL := As) (rest := rest) (fun sig h => hn.trans (hlen sig h)) hstack hW (by rw [hb]; exact hdg)
    (fun vm₁ hW₁ => ⟨hf.1, hf.2, hp.2 (T.setVm vm₁) hT hW₁⟩)
  dsimp only [Pt.U, Pt.locs, Pt.cells, Pt.slots] at X' e1 e2 h1 h2 h3 st
  subst h1; subst h2; subst h3
  exact ⟨v, (T.setVm vm₁).calling g' mk As.toArray, t, U', L, hT, X', hL, e1, e2, hq, st⟩
/-- not caught here, past rows that name other classes: it goes on to the caller -/
theorem vx_outP {p : Program} {l : Launch} {e : Env} {R : Room} {s : State} {m : MethodId} {args : Array Value} {below : List Frame} {meth : Method} {c : Code} {H : Heap} {locs : List Loc} {cells slots : Nat} {free : Addr → Prop} {ls : Array Slot} {rest : List Value} {Qc : Array Value → State → Outcome → State → Prop} {XC : String → State → State → Prop}
    {pc : Nat} {own E : String} {ce : Cell} {q : Addr} {mc ms : Nat} (hown : s.vm.findClass own = some m.cls) (hlocks : meth.locks = false)
    (hpass : ∀ z ∈ c.exceptionTable.toList, covers z pc = false ∨ (z.catchType ≠ 0 ∧ ∃ nm : String, (Cond.classLink own z.catchType nm).before args s = true ∧ va_Nc E nm s)) (hcell : H[q]? = some ce) (hv : ce.vm = .none) (hcl : s.vm.findClass E = some ce.cls)
    (hx : ∀ t : State, t.heap = H → s.vm.Alike t.vm → XC E s t) (hf : ∀ z ∈ locs, free z.base) (hc : cells ≤ mc) (hs : slots ≤ ms) :
    vx_W p l e R s m args below meth c H locs cells slots (vx_MQ below Qc XC args s mc ms free) (F0 m pc ls rest) q := by
  intro T hT X
  have hpl : e.platform.magicAccessors = ({} : Platform).magicAccessors := by rw [X.admits.platform]
  obtain ⟨vm', hW', X', st⟩ := X.outThrough hlocks q (g := F0 m pc ls rest) rfl rfl rfl (cell := ce) (by rw [hT]; exact hcell) (by rw [hv]; rfl)
    (by obtain ⟨k9, h9, -⟩ := Vm.findClass_spec hcl; exact ⟨k9, h9⟩) (fun z hz => by
      rcases hpass z hz with h | ⟨hz0, nm, hl1, hn1⟩
      · exact Or.inl h
      · obtain ⟨c6, hc6, hcl6⟩ := Cond.classLink_spec hown hl1 e.platform hpl
        obtain ⟨a8, b8, h1, h2, h3⟩ := hn1
        cases Option.some.inj (h1.symm.trans hcl)
        cases Option.some.inj (h2.symm.trans hc6)
        exact Or.inr ⟨hz0, _, hcl6, h3⟩)
  obtain ⟨g₀, hfr⟩ := X'.frames_eq
  have hcell9 : ((T.setVm vm').setFrames (.throwing q :: below)).heap[q]? = some ce := by
    show T.heap[q]? = some ce
    rw [hT]; exact hcell
  have hend : Ended ((T.setVm vm').setFrames (.throwing q :: below)) below (.threw q) := State.frames_setFrames _ (State.cur_lt_of_frames hfr)
  refine ⟨(T.setVm vm').setFrames (.throwing q :: below), ?_, .threw q, X'.here.running, hend, Or.inr ⟨q, rfl, E, ce, locs, hx _ hT (X'.ends _).1.alike, hcell9, hv, hcl, (X'.ends _).1, (X'.ends _).2.mono hc hs, hf⟩⟩
  rw [X.pushThrowing_eq]
  exact st
/-- a thing of a world lies in the heap -/
theorem vx_lt {D : va_G} {cl : List vw_C} {ws : va_W} {H1 : Heap} (h : va_P D cl ws H1) {k : Nat} {q : Nat × va_E} (hk : ws[k]? = some q) : q.1 < H1.size := (h k q hk).lt
end VXS
/-! ===== END ===== -/
/-! ===== BEGIN methods with a table of their own: called by a name, returning or throwing ===== -/
section VXH
/-! vx_backW, vx_callVX, vx_callSX, vx_callVW, vx_runVW, vx_runVX, vx_runSX, vx_ofWH follow the same proofs as their sisters above (Free/Laws.lean, Shelf42/LK1.lean); vx_outP calls Shelf42/NT130.lean (outThrough). -/
section
variable {l : Launch} {R : Room} {p : Program} {e : Env} {below : List Frame} {s : State} {sargs : Array Value} {y : MethodName} {len W9 : Nat}
theorem vx_backW {ws : List Cond} {rm : Room} {Pc : Array Value → State → Prop} {Qc : Array Value → State → Outcome → State → Prop} {XC : String → State → State → Prop} {mc ms : Nat} {free : Addr → Prop} {bytes : ByteArray} {maxL : Nat} {ret : Option FieldType} {hh : List (Nat × Nat × Nat × Nat)}
    (hM : vx_Met l y ws rm Pc Qc XC mc ms free) (hblind : FrameBlind Pc) (hrc : rm.cells = mc) (hrs : rm.slots = ms)
    (hframes : rm.frames + 1 ≤ R.frames) (hlocals : W9 + (maxL + 11) + rm.locals ≤ R.locals)
    (hws : ∀ w ∈ ws, ∀ a' U, s.WarmedH U.vm → w.before a' U = true) (hcode : Cond.codeWith y bytes maxL ret hh ∈ ws) (hinit : ∀ a' U, s.WarmedH U.vm → (Cond.initialized y.cls).before a' U = true) :
    vx_Back l R p e below s sargs y len W9 (PreOf R mc ms Pc) (PostOf Qc mc ms free) (vx_Post XC mc ms free) := by
  intro m meth c A g ig mk a X hg hsize hdg hW hn hp
  have h1 : (headSpec ws rm).pre.before a A.U = true := atoms_intro fun w hw => hws w hw _ _ X.warmed
  have h2 : (Cond.codeWith y bytes maxL ret hh).before a A.U = true := hws _ hcode _ _ X.warmed
  have h3 : (Cond.initialized y.cls).before a A.U = true := hinit _ _ X.warmed
  have h4 : A.cells + (headSpec ws rm).room.cells ≤ R.cells := by rw [show (headSpec ws rm).room.cells = mc from hrc]; exact hp.1
  have h5 : A.slots + (headSpec ws rm).room.slots ≤ R.slots := by rw [show (headSpec ws rm).room.slots = ms from hrs]; exact hp.2.1
  have hPc : Pc a (A.U.calling g mk a) := hblind _ _ _ _ hp.2.2
  obtain ⟨U, Ls, c0, s0⟩ := A
  dsimp only [Pt.U, Pt.locs, Pt.cells, Pt.slots] at h1 h2 h3 h4 h5 X hn hPc ⊢
  obtain ⟨m9, methY, cY, hn9, hmY, hcY, -, hlY, -⟩ := Cond.codeWith_spec h2
  cases Option.some.inj (hn9.symm.trans hn)
  obtain ⟨kY, hkY, -⟩ := className_of_methodNamed hn
  have hinitY : kY.init = .initialized := Cond.initialized_spec (findClass_of_methodNamed hn) hkY h3
  have h : At U g.method c below := by rw [hg]; exact X.here
  have hlocals9 : W9 + (maxL + 11) + (headSpec ws rm).room.locals ≤ R.locals := hlocals
  have happ : (headSpec ws rm).appliesLoose y e.platform (U.calling g mk a) = true :=
    Spec.appliesLoose_calling (g := g) h hdg hn hkY hinitY
      (X.room_calling (g := g) (R' := (headSpec ws rm).room) hsize hmY hcY hframes (by rw [hlY]; omega) h4 h5) h1
  obtain ⟨mid, hmid⟩ := h.above
  have hfr : (U.setTop g).frames = (.java g :: mid) ++ below := by rw [State.frames_setTop' g h.top, hmid]; rfl
  obtain ⟨o, s₂, hsteps, -, hend, hq⟩ := Steps.callFree hM p X.admits X.cas X.clock (acts := []) hfr happ hPc trivial
  have hq' : vx_Q Qc XC mc ms free a (U.calling g mk a) o s₂ := hq
  rw [State.frames_setTop' g h.top] at hend
  obtain ⟨g₀, hg0⟩ := Option.isSome_iff_exists.mp h.top
  obtain ⟨r, hr⟩ := State.topJava?_eq_some.mp hg0
  have hr' : (({ U with heap := s₂.heap, slotsUsed := s₂.slotsUsed } : State).setVm s₂.vm).frames = .java g₀ :: r := hr
  rcases hq' with ⟨hqc, L, hfe, hL⟩ | ⟨q, rfl, E, ce, L, hx, hce, hcv, hcl, hW₂, hsm, hL⟩
  · obtain ⟨⟨v, rfl⟩, hW₂, e2, q2, q3, q4, q5, q6⟩ := id hfe
    have e3 : s₂ = ({ (U.calling g mk a).setFrames s₂.frames with heap := s₂.heap, slotsUsed := s₂.slotsUsed } : State).setVm s₂.vm := by
      have : s₂ = ({ s₂ with vm := (U.calling g mk a).vm } : State).setVm s₂.vm := rfl
      rw [e2] at this
      exact this
    obtain ⟨c₂, i₂, len₂, hc₂, hd₂, hf₂⟩ := hend
    have hW' : U.WarmedH s₂.vm := hW₂
    have hcc : c₂ = c := by
      have h1 : s₂.code? g.method = U.code? g.method := by
        rw [State.code?_eq, State.code?_eq, hW'.alike.method?]
      exact Option.some.inj (hc₂.symm.trans (h1.trans h.code))
    subst hcc
    have hlen : len₂ = len := by rw [hdg] at hd₂; cases hd₂; rfl
    subst hlen
    have hs₂ : s₂ = (({ U with heap := s₂.heap, slotsUsed := s₂.slotsUsed } : State).setVm s₂.vm).setTop { g with pc := g.pc + len₂, stack := v.toList ++ g.stack } := by
      refine e3.trans ?_
      rw [hf₂, State.calling_eq h.top, State.setFrames_setFrames, State.setTop_of_frames _ hr', hr]
      rfl
    have hsame : U.sameButNew ({ U with heap := s₂.heap, slotsUsed := s₂.slotsUsed } : State) L mc ms := by
      refine ⟨?_, q2, q3, q4, q5, q6⟩
      obtain ⟨t, ht, -⟩ := State.frames_cons hr
      show ({ U with heap := s₂.heap, slotsUsed := s₂.slotsUsed } : State) = { U.setFrames U.frames with heap := s₂.heap, slotsUsed := s₂.slotsUsed }
      rw [State.setFrames_self ht]
    subst hg
    refine Or.inl ⟨v, ⟨(({ U with heap := s₂.heap, slotsUsed := s₂.slotsUsed } : State).setVm s₂.vm), Ls ++ L, c0 + mc, s0 + ms⟩,
      ⟨X.admits, X.cas, X.clock, X.frames, X.room, X.hears, X.method, X.code, (X.here.setHeapUsed s₂.heap s₂.slotsUsed).setVm hW'.alike, X.tail, State.WarmedH.trans X.warmed hW', X.limits, X.bytes, X.same.trans (hsame.setVm s.vm)⟩,
      ⟨g, mk, s₂, L, rfl, rfl, hqc, rfl, hL, rfl, rfl⟩, ?_⟩
    show Steps p.tables e below _ ((({ U with heap := s₂.heap, slotsUsed := s₂.slotsUsed } : State).setVm s₂.vm).setTop { g with pc := g.pc + len₂, stack := v.toList ++ g.stack })
    rw [← hs₂]
    exact hsteps
  · obtain ⟨e2, q2, q3, q4, q5, q6⟩ := id hsm
    have e3 : s₂ = ({ (U.calling g mk a).setFrames s₂.frames with heap := s₂.heap, slotsUsed := s₂.slotsUsed } : State).setVm s₂.vm := by
      have : s₂ = ({ s₂ with vm := (U.calling g mk a).vm } : State).setVm s₂.vm := rfl
      rw [e2] at this
      exact this
    have hf₂ : s₂.frames = .throwing q :: .java g :: U.frames.tail := hend
    have hW' : U.WarmedH s₂.vm := hW₂
    have hs₂ : s₂ = ((({ U with heap := s₂.heap, slotsUsed := s₂.slotsUsed } : State).setVm s₂.vm).setTop g).pushFrame (.throwing q) := by
      refine e3.trans ?_
      rw [hf₂, State.calling_eq h.top, State.setFrames_setFrames, State.pushFrame, State.frames_setTop _ hr', State.setTop_of_frames _ hr', State.setFrames_setFrames, hr]
      rfl
    have hsame : U.sameButNew ({ U with heap := s₂.heap, slotsUsed := s₂.slotsUsed } : State) L mc ms := by
      refine ⟨?_, q2, q3, q4, q5, q6⟩
      obtain ⟨t, ht, -⟩ := State.frames_cons hr
      show ({ U with heap := s₂.heap, slotsUsed := s₂.slotsUsed } : State) = { U.setFrames U.frames with heap := s₂.heap, slotsUsed := s₂.slotsUsed }
      rw [State.setFrames_self ht]
    subst hg
    refine Or.inr ⟨q, ⟨(({ U with heap := s₂.heap, slotsUsed := s₂.slotsUsed } : State).setVm s₂.vm), Ls ++ L, c0 + mc, s0 + ms⟩,
      ⟨X.admits, X.cas, X.clock, X.frames, X.room, X.hears, X.method, X.code, (X.here.setHeapUsed s₂.heap s₂.slotsUsed).setVm hW'.alike, X.tail, State.WarmedH.trans X.warmed hW', X.limits, X.bytes, X.same.trans (hsame.setVm s.vm)⟩,
      ⟨g, mk, s₂, L, E, ce, rfl, rfl, hx, hce, hcv, hcl, rfl, hL, rfl, rfl⟩, ?_⟩
    show Steps p.tables e below _ (((({ U with heap := s₂.heap, slotsUsed := s₂.slotsUsed } : State).setVm s₂.vm).setTop g).pushFrame (.throwing q))
    rw [← hs₂]
    exact hsteps
end
variable {p : Program} {l : Launch} {e : Env} {R : Room} {s : State} {m : MethodId} {args : Array Value} {below : List Frame} {meth : Method} {c : Code} {T : State} {H : Heap} {locs : List Loc} {cells slots : Nat}
theorem vx_callVX (X : Stand p l e R s m args below meth c T locs cells slots) (hexec : p.tables.exec = Jvm.exec) {own C : String} {index : Nat} {y : MethodName} {bytes : ByteArray} {maxL : Nat} {ret : Option FieldType} {hh : List (Nat × Nat × Nat × Nat)}
    (hown : s.vm.findClass own = some m.cls) (hlink : (Cond.methodLink own index y).before args s = true) (hinst : (Cond.instanceMethod y).before args s = true) (hsel : (Cond.selects C y y).before args s = true)
    (hcode : (Cond.codeWith y bytes maxL ret hh).before args s = true) (hy : y.cls ≠ "java/lang/invoke/MethodHandle" ∧ y.cls ≠ "java/lang/invoke/VarHandle")
    {W9 : Nat} {Pre : Pt → Array Value → Prop} {Post : Pt → Array Value → Option Value → Pt → Prop} {PostX : Pt → Array Value → Addr → Pt → Prop} (hK : vx_Back l R p e below s args y 3 W9 Pre Post PostX)
    {b : Addr} {cellB : Cell} (hcell : T.heap[b]? = some cellB) (hobj : cellB.vm.isStatics = false) (hcls : s.vm.findClass C = some cellB.cls)
    {g : JFrame} (hg : g.method = m) (hsize : g.locals.size = c.maxLocals) {argsL rest : List Value} (hlen : ∀ sig, parseMethodDescriptor y.desc = some sig → argsL.length = sig.parameters.length)
    (hstack : g.stack = argsL.reverse ++ .ref b :: rest) (hW : 2 * g.monitorRoom + (rest.map fun v => v.category).sum ≤ W9) (hdg : decode c.code g.pc = .ok (.invokevirtual index, 3))
    (hpre : ∀ vm₁, s.WarmedH vm₁ → Pre ⟨T.setVm vm₁, locs, cells, slots⟩ (Value.ref b :: argsL).toArray) :
    (∃ (v : Option Value) (vm₁ : Vm) (B : Pt), s.WarmedH vm₁ ∧ Stand p l e R s m args below meth c B.U B.locs B.cells B.slots ∧ Post ⟨T.setVm vm₁, locs, cells, slots⟩ (Value.ref b :: argsL).toArray v B ∧
      ∀ target, Steps p.tables e below (B.U.setTop { g with pc := g.pc + 3, stack := v.toList ++ rest }) target → Steps p.tables e below (T.setTop g) target) ∨
    (∃ (q : Addr) (vm₁ : Vm) (B : Pt), s.WarmedH vm₁ ∧ Stand p l e R s m args below meth c B.U B.locs B.cells B.slots ∧ PostX ⟨T.setVm vm₁, locs, cells, slots⟩ (Value.ref b :: argsL).toArray q B ∧
      Steps p.tables e below (T.setTop g) ((B.U.setTop { g with stack := rest }).pushFrame (.throwing q))) := by
  obtain ⟨mk, methM, hnamed, hmethM, hstM, habM⟩ := Cond.instanceMethod_spec hinst
  obtain ⟨m8, methM', cM, hn8, hmethM', -, -, -, -, -, -, hsigM⟩ := Cond.codeWith_spec hcode
  cases Option.some.inj (hn8.symm.trans hnamed)
  cases hmethM.symm.trans hmethM'
  obtain ⟨c2, r2, m2, q1, q2, q3, q4, kP, hkP, hkPi⟩ := Cond.selects_spec hsel
  cases hcls.symm.trans q1
  cases (State.methodFound?_of_named hnamed hy).symm.trans q2
  cases hnamed.symm.trans q3
  have hselP : selectMethod e.platform s.vm cellB.cls mk = .method mk := by rw [Launch.admits_selectMethod X.admits]; exact q4
  obtain ⟨vm₁, X₁, hstep₁⟩ := X.invokevirtual hexec hown hlink hnamed hmethM hstM hkP hkPi hy (a := b) (cell := cellB) hcell
    (fun z h => by rw [h] at hobj; cases hobj) hselP hmethM habM hkP hkPi (g := g) hg (argsL := argsL) (rest := rest) (hlen _ hsigM) hstack hdg
  rcases hK m meth c ⟨T.setVm vm₁, locs, cells, slots⟩ { g with stack := rest } (.invokevirtual index) mk (Value.ref b :: argsL).toArray X₁ hg hsize hdg hW (X₁.named hnamed) (hpre vm₁ X₁.warmed) with ⟨v, B, X', hpost, hsteps⟩ | ⟨q, B, X', hpost, hsteps⟩
  · exact Or.inl ⟨v, vm₁, B, X₁.warmed, X', hpost, fun target h => hstep₁ _ fun acts => by rw [doInvoke_state]; exact hsteps.trans h⟩
  · exact Or.inr ⟨q, vm₁, B, X₁.warmed, X', hpost, hstep₁ _ fun acts => by rw [doInvoke_state]; exact hsteps⟩
theorem vx_callSX (X : Stand p l e R s m args below meth c T locs cells slots) (hexec : p.tables.exec = Jvm.exec) {own : String} {index : Nat} {y : MethodName} {bytes : ByteArray} {maxL : Nat} {ret : Option FieldType} {hh : List (Nat × Nat × Nat × Nat)}
    (hown : s.vm.findClass own = some m.cls) (hlink : (Cond.methodLink own index y).before args s = true) (hstat : (Cond.static y).before args s = true) (hinit : (Cond.initialized y.cls).before args s = true)
    (hcode : (Cond.codeWith y bytes maxL ret hh).before args s = true) (hy : y.cls ≠ "java/lang/invoke/MethodHandle" ∧ y.cls ≠ "java/lang/invoke/VarHandle")
    {W9 : Nat} {Pre : Pt → Array Value → Prop} {Post : Pt → Array Value → Option Value → Pt → Prop} {PostX : Pt → Array Value → Addr → Pt → Prop} (hK : vx_Back l R p e below s args y 3 W9 Pre Post PostX)
    {g : JFrame} (hg : g.method = m) (hsize : g.locals.size = c.maxLocals) {argsL rest : List Value} (hlen : ∀ sig, parseMethodDescriptor y.desc = some sig → argsL.length = sig.parameters.length)
    (hstack : g.stack = argsL.reverse ++ rest) (hW : 2 * g.monitorRoom + (rest.map fun v => v.category).sum ≤ W9) (hdg : decode c.code g.pc = .ok (.invokestatic index, 3))
    (hpre : ∀ vm₁, s.WarmedH vm₁ → Pre ⟨T.setVm vm₁, locs, cells, slots⟩ argsL.toArray) :
    (∃ (v : Option Value) (vm₁ : Vm) (B : Pt), s.WarmedH vm₁ ∧ Stand p l e R s m args below meth c B.U B.locs B.cells B.slots ∧ Post ⟨T.setVm vm₁, locs, cells, slots⟩ argsL.toArray v B ∧
      ∀ target, Steps p.tables e below (B.U.setTop { g with pc := g.pc + 3, stack := v.toList ++ rest }) target → Steps p.tables e below (T.setTop g) target) ∨
    (∃ (q : Addr) (vm₁ : Vm) (B : Pt), s.WarmedH vm₁ ∧ Stand p l e R s m args below meth c B.U B.locs B.cells B.slots ∧ PostX ⟨T.setVm vm₁, locs, cells, slots⟩ argsL.toArray q B ∧
      Steps p.tables e below (T.setTop g) ((B.U.setTop { g with stack := rest }).pushFrame (.throwing q))) := by
  obtain ⟨mk, methM, cM, hnamed, hmethM, -, -, -, -, -, -, hsigM⟩ := Cond.codeWith_spec hcode
  have hstatic : methM.isStatic = true := Cond.static_spec hnamed hmethM hstat
  obtain ⟨kP, hkP, -⟩ := className_of_methodNamed hnamed
  have hinitP : kP.init = .initialized := Cond.initialized_spec (findClass_of_methodNamed hnamed) hkP hinit
  obtain ⟨vm₁, X₁, hstep₁⟩ := X.invokestatic hexec hown hlink hnamed hmethM hstatic hkP hinitP hy (g := g) hg (argsL := argsL) (rest := rest) (hlen _ hsigM) hstack hdg
  rcases hK m meth c ⟨T.setVm vm₁, locs, cells, slots⟩ { g with stack := rest } (.invokestatic index) mk argsL.toArray X₁ hg hsize hdg hW (X₁.named hnamed) (hpre vm₁ X₁.warmed) with ⟨v, B, X', hpost, hsteps⟩ | ⟨q, B, X', hpost, hsteps⟩
  · exact Or.inl ⟨v, vm₁, B, X₁.warmed, X', hpost, fun target h => hstep₁ _ fun acts => by rw [doInvoke_state]; exact hsteps.trans h⟩
  · exact Or.inr ⟨q, vm₁, B, X₁.warmed, X', hpost, hstep₁ _ fun acts => by rw [doInvoke_state]; exact hsteps⟩
theorem vx_callVW (X : Stand p l e R s m args below meth c T locs cells slots) (hexec : p.tables.exec = Jvm.exec) {own C : String} {index : Nat} {y : MethodName} {bytes : ByteArray} {maxL : Nat} {ret : Option FieldType} {hh : List (Nat × Nat × Nat × Nat)}
    (hown : s.vm.findClass own = some m.cls) (hlink : (Cond.methodLink own index y).before args s = true) (hinst : (Cond.instanceMethod y).before args s = true) (hsel : (Cond.selects C y y).before args s = true)
    (hcode : (Cond.codeWith y bytes maxL ret hh).before args s = true) (hy : y.cls ≠ "java/lang/invoke/MethodHandle" ∧ y.cls ≠ "java/lang/invoke/VarHandle")
    {W9 : Nat} {Pre : Pt → Array Value → Prop} {Post : Pt → Array Value → Option Value → Pt → Prop} (hK : Back l R p e below s args y 3 W9 Pre Post)
    {b : Addr} {cellB : Cell} (hcell : T.heap[b]? = some cellB) (hobj : cellB.vm.isStatics = false) (hcls : s.vm.findClass C = some cellB.cls)
    {g : JFrame} (hg : g.method = m) (hsize : g.locals.size = c.maxLocals) {argsL rest : List Value} (hlen : ∀ sig, parseMethodDescriptor y.desc = some sig → argsL.length = sig.parameters.length)
    (hstack : g.stack = argsL.reverse ++ .ref b :: rest) (hW : 2 * g.monitorRoom + (rest.map fun v => v.category).sum ≤ W9) (hdg : decode c.code g.pc = .ok (.invokevirtual index, 3))
    (hpre : ∀ vm₁, s.WarmedH vm₁ → Pre ⟨T.setVm vm₁, locs, cells, slots⟩ (Value.ref b :: argsL).toArray) :
    ∃ (v : Option Value) (vm₁ : Vm) (B : Pt), s.WarmedH vm₁ ∧ Stand p l e R s m args below meth c B.U B.locs B.cells B.slots ∧ Post ⟨T.setVm vm₁, locs, cells, slots⟩ (Value.ref b :: argsL).toArray v B ∧
      ∀ target, Steps p.tables e below (B.U.setTop { g with pc := g.pc + 3, stack := v.toList ++ rest }) target → Steps p.tables e below (T.setTop g) target := by
  obtain ⟨mk, methM, hnamed, hmethM, hstM, habM⟩ := Cond.instanceMethod_spec hinst
  obtain ⟨m8, methM', cM, hn8, hmethM', -, -, -, -, -, -, hsigM⟩ := Cond.codeWith_spec hcode
  cases Option.some.inj (hn8.symm.trans hnamed)
  cases hmethM.symm.trans hmethM'
  obtain ⟨c2, r2, m2, q1, q2, q3, q4, kP, hkP, hkPi⟩ := Cond.selects_spec hsel
  cases hcls.symm.trans q1
  cases (State.methodFound?_of_named hnamed hy).symm.trans q2
  cases hnamed.symm.trans q3
  have hselP : selectMethod e.platform s.vm cellB.cls mk = .method mk := by rw [Launch.admits_selectMethod X.admits]; exact q4
  obtain ⟨vm₁, X₁, hstep₁⟩ := X.invokevirtual hexec hown hlink hnamed hmethM hstM hkP hkPi hy (a := b) (cell := cellB) hcell
    (fun z h => by rw [h] at hobj; cases hobj) hselP hmethM habM hkP hkPi (g := g) hg (argsL := argsL) (rest := rest) (hlen _ hsigM) hstack hdg
  obtain ⟨v, B, X', hpost, hsteps⟩ := hK m meth c ⟨T.setVm vm₁, locs, cells, slots⟩ { g with stack := rest } (.invokevirtual index) mk (Value.ref b :: argsL).toArray X₁ hg hsize hdg hW (X₁.named hnamed) (hpre vm₁ X₁.warmed)
  exact ⟨v, vm₁, B, X₁.warmed, X', hpost, fun target h => hstep₁ _ fun acts => by rw [doInvoke_state]; exact hsteps.trans h⟩
abbrev vx_CVW (R : Room) (s : State) (args : Array Value) (own C : String) (index : Nat) (y : MethodName) (bytes : ByteArray) (maxL : Nat) (ret : Option FieldType) (hh : List (Nat × Nat × Nat × Nat)) (ws : List Cond) (rm : Room) (mc ms n : Nat) : Prop :=
  (rm.cells = mc ∧ rm.slots = ms ∧ rm.frames + 1 ≤ R.frames ∧ 8 + (maxL + 11) + rm.locals ≤ R.locals ∧ (∀ w ∈ ws, ∀ (a' : Array Value) (U : State), s.WarmedH U.vm → w.before a' U = true) ∧ Cond.codeWith y bytes maxL ret hh ∈ ws) ∧
  (Cond.codeWith y bytes maxL ret hh).before args s = true ∧ (Cond.initialized y.cls).before args s = true ∧ (y.cls ≠ "java/lang/invoke/MethodHandle" ∧ y.cls ≠ "java/lang/invoke/VarHandle") ∧
  (∀ sig, parseMethodDescriptor y.desc = some sig → n = sig.parameters.length) ∧ (Cond.methodLink own index y).before args s = true ∧ (Cond.instanceMethod y).before args s = true ∧ (Cond.selects C y y).before args s = true
theorem vx_cwVW {own C : String} {index maxL mc ms : Nat} {y : MethodName} {bytes : ByteArray} {ret : Option FieldType} {hh : List (Nat × Nat × Nat × Nat)} {Ts ws ws' : List Cond} {rm : Room} (n : Nat) (ht : ∀ w ∈ Ts, w.before args s = true) (hT : GoodIn Ts (wsV own index C y ws)) (hw : ws = Cond.codeWith y bytes maxL ret hh :: ws') (hrc : rm.cells = mc) (hrs : rm.slots = ms)
    (hd : y.cls = C ∧ y.cls ≠ "java/lang/invoke/MethodHandle" ∧ y.cls ≠ "java/lang/invoke/VarHandle" ∧ (parseMethodDescriptor y.desc).map (fun d => d.parameters.length) = some n) (hR : rm.frames + 1 ≤ R.frames ∧ 8 + (maxL + 11) + rm.locals ≤ R.locals) :
    vx_CVW R s args own C index y bytes maxL ret hh ws rm mc ms n := by
  obtain ⟨hC, hd⟩ := hd
  subst hC
  have ok : ∀ w ∈ wsV own index y.cls y ws, w.before args s = true := fun w h => ht w (hT w h).1
  have hG : GoodIn Ts ws := fun w h => hT w (by unfold wsV; exact List.mem_append_right _ h)
  have hc : Cond.codeWith y bytes maxL ret hh ∈ ws := by rw [hw]; exact List.mem_cons_self
  refine ⟨⟨hrc, hrs, hR.1, hR.2, pay_in ht hG, hc⟩, ht _ (hG _ hc).1, ok _ (by simp [wsV]), ⟨hd.1, hd.2.1⟩, fun sig h => ?_, ok _ (by simp [wsV]), ok _ (by simp [wsV]), ok _ (by simp [wsV])⟩
  have h2 := hd.2.2
  rw [h] at h2
  exact (Option.some.inj h2).symm
theorem vx_runVW {y : MethodName} {bytes cc : ByteArray} {maxL nL mc ms n index : Nat} {ret : Option FieldType} {hh : List (Nat × Nat × Nat × Nat)} {ws : List Cond} {rm : Room} {Pc : Array Value → State → Prop} {Qc : Array Value → State → Outcome → State → Prop} {free : Addr → Prop} {Ts : List Cond} {own C : String} {b : Addr} {As rest : List Value} {g : JFrame}
    (S : CallFix p m c cc nL s args Ts own) (hM : Met l y ws rm Pc Qc mc ms free) (cw : vx_CVW R s args own C index y bytes maxL ret hh ws rm mc ms n) (hp : PreV s H C b Pc As)
    (hg : g.method = m) (hn : As.length = n) (hsize : g.locals.size = nL) (hstack : g.stack = As.reverse ++ .ref b :: rest) (hW : 2 * g.monitorRoom + (rest.map fun v => v.category).sum ≤ 8) (hdg : decode cc g.pc = .ok (.invokevirtual index, 3)) (hf : cells + mc ≤ R.cells ∧ slots + ms ≤ R.slots) :
    va_Run p l e R s m args below meth c H locs cells slots mc ms g rest (Qc (Value.ref b :: As).toArray) free := by
  obtain ⟨⟨hrc, hrs, hfr, hlo, hws, hcw⟩, hcode, hini, hy, hlen, hl, hin, hse⟩ := cw
  have hK : Back l R p e below s args y 3 8 (PreOf R mc ms Pc) (PostOf Qc mc ms free) := va_backW (hh := hh) (bytes := bytes) (maxL := maxL) (ret := ret) hM hp.1 hrc hrs hfr hlo hws hcw (fun a' U hW => word_at hW (Or.inl (by first | rfl | simp [Cond.onTables, Cond.keeps, Cond.steady])) hini)
  obtain ⟨hx, hb, hml, ho, -⟩ := S
  obtain ⟨-, ⟨cellB, hcB, hoB, hclB⟩, hPc⟩ := hp
  intro T hT X
  obtain ⟨v, vm₁, ⟨U', l2, c2, s2⟩, hW₁, X', ⟨g', mk, t, L, e1, e2, hq, h1, hL, h2, h3⟩, st⟩ := vx_callVW X hx (C := C) (hh := hh) (bytes := bytes) (maxL := maxL) (ret := ret) ho hl hin hse hcode hy hK (by rw [hT]; exact hcB) hoB hclB hg (hsize.trans hml.symm) (argsL := As) (rest := rest) (fun sig h => hn.trans (hlen sig h)) hstack hW (by rw [hb]; exact hdg)
    (fun vm₁ hW₁ => ⟨hf.1, hf.2, hPc (T.setVm vm₁) hT hW₁⟩)
  dsimp only [Pt.U, Pt.locs, Pt.cells, Pt.slots] at X' e1 e2 h1 h2 h3 st
  subst h1; subst h2; subst h3
  exact ⟨v, (T.setVm vm₁).calling g' mk (Value.ref b :: As).toArray, t, U', L, hT, X', hL, e1, e2, hq, st⟩
section
variable {y : MethodName} {bytes cc : ByteArray} {maxL nL mc ms n index : Nat} {ret : Option FieldType} {ws : List Cond} {rm : Room} {Pc : Array Value → State → Prop} {Qc : Array Value → State → Outcome → State → Prop} {XC : String → State → State → Prop} {free : Addr → Prop} {Ts : List Cond} {own C : String} {b : Addr} {As rest : List Value} {g : JFrame}
theorem vx_runVX {hh : List (Nat × Nat × Nat × Nat)} (S : CallFix p m c cc nL s args Ts own) (hM : vx_Met l y ws rm Pc Qc XC mc ms free) (cw : vx_CVW R s args own C index y bytes maxL ret hh ws rm mc ms n) (hp : PreV s H C b Pc As)
    (hg : g.method = m) (hn : As.length = n) (hsize : g.locals.size = nL) (hstack : g.stack = As.reverse ++ .ref b :: rest) (hW : 2 * g.monitorRoom + (rest.map fun v => v.category).sum ≤ 8) (hdg : decode cc g.pc = .ok (.invokevirtual index, 3)) (hf : cells + mc ≤ R.cells ∧ slots + ms ≤ R.slots) :
    vx_Run p l e R s m args below meth c H locs cells slots mc ms g rest (Qc (Value.ref b :: As).toArray) XC free := by
  obtain ⟨⟨hrc, hrs, hfr, hlo, hws, hcw⟩, hcode, hini, hy, hlen, hl, hin, hse⟩ := cw
  have hK : vx_Back l R p e below s args y 3 8 (PreOf R mc ms Pc) (PostOf Qc mc ms free) (vx_Post XC mc ms free) := vx_backW (hh := hh) (bytes := bytes) (maxL := maxL) (ret := ret) hM hp.1 hrc hrs hfr hlo hws hcw (fun a' U hW => word_at hW (Or.inl (by first | rfl | simp [Cond.onTables, Cond.keeps, Cond.steady])) hini)
  obtain ⟨hx, hb, hml, ho, -⟩ := S
  obtain ⟨-, ⟨cellB, hcB, hoB, hclB⟩, hPc⟩ := hp
  intro T hT X
  rcases vx_callVX X hx (C := C) (hh := hh) (bytes := bytes) (maxL := maxL) (ret := ret) ho hl hin hse hcode hy hK (by rw [hT]; exact hcB) hoB hclB hg (hsize.trans hml.symm) (argsL := As) (rest := rest) (fun sig h => hn.trans (hlen sig h)) hstack hW (by rw [hb]; exact hdg)
    (fun vm₁ hW₁ => ⟨hf.1, hf.2, hPc (T.setVm vm₁) hT hW₁⟩) with ⟨v, vm₁, ⟨U', l2, c2, s2⟩, hW₁, X', ⟨g', mk, t, L, e1, e2, hq, h1, hL, h2, h3⟩, st⟩ | ⟨q, vm₁, ⟨U', l2, c2, s2⟩, hW₁, X', ⟨g', mk, t, L, E, ce, e1, e2, hq, hce, hcv, hcl, h1, hL, h2, h3⟩, st⟩
  · dsimp only [Pt.U, Pt.locs, Pt.cells, Pt.slots] at X' e1 e2 h1 h2 h3 st
    subst h1; subst h2; subst h3
    exact Or.inl ⟨v, (T.setVm vm₁).calling g' mk (Value.ref b :: As).toArray, t, U', L, hT, X', hL, e1, e2, hq, st⟩
  · dsimp only [Pt.U, Pt.locs, Pt.cells, Pt.slots] at X' e1 e2 h1 h2 h3 st hcl
    subst h1; subst h2; subst h3
    exact Or.inr ⟨q, (T.setVm vm₁).calling g' mk (Value.ref b :: As).toArray, t, U', L, E, ce, hT, X', hL, e1, e2, hq, hce, hcv, vx_cls hW₁ hcl, st⟩
theorem vx_runSX {hh : List (Nat × Nat × Nat × Nat)} (S : CallFix p m c cc nL s args Ts own) (hM : vx_Met l y ws rm Pc Qc XC mc ms free) (cw : vx_CSW R s args own index y bytes maxL ret hh ws rm mc ms n) (hp : PreS s H Pc As)
    (hg : g.method = m) (hn : As.length = n) (hsize : g.locals.size = nL) (hstack : g.stack = As.reverse ++ rest) (hW : 2 * g.monitorRoom + (rest.map fun v => v.category).sum ≤ 8) (hdg : decode cc g.pc = .ok (.invokestatic index, 3)) (hf : cells + mc ≤ R.cells ∧ slots + ms ≤ R.slots) :
    vx_Run p l e R s m args below meth c H locs cells slots mc ms g rest (Qc As.toArray) XC free := by
  obtain ⟨⟨hrc, hrs, hfr, hlo, hws, hcw⟩, hcode, hini, hy, hlen, hl, hstt⟩ := cw
  have hK : vx_Back l R p e below s args y 3 8 (PreOf R mc ms Pc) (PostOf Qc mc ms free) (vx_Post XC mc ms free) := vx_backW (hh := hh) (bytes := bytes) (maxL := maxL) (ret := ret) hM hp.1 hrc hrs hfr hlo hws hcw (fun a' U hW => word_at hW (Or.inl (by first | rfl | simp [Cond.onTables, Cond.keeps, Cond.steady])) hini)
  obtain ⟨hx, hb, hml, ho, -⟩ := S
  intro T hT X
  rcases vx_callSX X hx (hh := hh) (bytes := bytes) (maxL := maxL) (ret := ret) ho hl hstt hini hcode hy hK hg (hsize.trans hml.symm) (argsL := As) (rest := rest) (fun sig h => hn.trans (hlen sig h)) hstack hW (by rw [hb]; exact hdg)
    (fun vm₁ hW₁ => ⟨hf.1, hf.2, hp.2 (T.setVm vm₁) hT hW₁⟩) with ⟨v, vm₁, ⟨U', l2, c2, s2⟩, hW₁, X', ⟨g', mk, t, L, e1, e2, hq, h1, hL, h2, h3⟩, st⟩ | ⟨q, vm₁, ⟨U', l2, c2, s2⟩, hW₁, X', ⟨g', mk, t, L, E, ce, e1, e2, hq, hce, hcv, hcl, h1, hL, h2, h3⟩, st⟩
  · dsimp only [Pt.U, Pt.locs, Pt.cells, Pt.slots] at X' e1 e2 h1 h2 h3 st
    subst h1; subst h2; subst h3
    exact Or.inl ⟨v, (T.setVm vm₁).calling g' mk As.toArray, t, U', L, hT, X', hL, e1, e2, hq, st⟩
  · dsimp only [Pt.U, Pt.locs, Pt.cells, Pt.slots] at X' e1 e2 h1 h2 h3 st hcl
    subst h1; subst h2; subst h3
    exact Or.inr ⟨q, (T.setVm vm₁).calling g' mk As.toArray, t, U', L, E, ce, hT, X', hL, e1, e2, hq, hce, hcv, vx_cls hW₁ hcl, st⟩
end
end VXH
theorem vx_ofWH {l : Launch} {y : MethodName} {ws ws' : List Cond} {rm : Room} {Pc : Array Value → State → Prop} {Qc : Array Value → State → Outcome → State → Prop} {XC : String → State → State → Prop} {mc ms : Nat} {free : Addr → Prop} {cc : ByteArray} {maxL : Nat} {ret : Option FieldType} {hh : List (Nat × Nat × Nat × Nat)}
    (hy : plainName y.cls = true) (hw : ws = Cond.codeWith y cc maxL ret hh :: ws')
    (body : ∀ p e s m args below meth c s₁, BodyLoose p l y (headSpec ws rm) cc maxL ret e s m args below meth c s₁ → c.maxLocals = maxL → Pc args s →
      W p l e (headSpec ws rm).room s m args below meth c s.heap [] 0 0 (vx_MQ below Qc XC args s mc ms free) (entryFrame m args maxL)) : vx_Met l y ws rm Pc Qc XC mc ms free := by
  refine MetFree.of_bodyS (code := cc) (maxLocals := maxL) (ret := ret) hy ?_ ?_
  · intro args s m h hn
    obtain ⟨m9, meth, c, hn9, h1, h2, h3, h4, -, h5, h6, -⟩ := Cond.codeWith_spec (atoms_spec (ws := ws) h _ (by rw [hw]; exact List.mem_cons_self))
    cases hn.symm.trans hn9
    exact ⟨meth, c, h1, h2, h3, h4, h5, h6⟩
  · intro p e s m args below meth c s₁ B hml hP _
    have hh0 : s₁.heap = s.heap := by rw [B.state]; rfl
    obtain ⟨t, a1, o, b1, b2, b3⟩ := body p e s m args below meth c s₁ B hml hP s₁ hh0 (Stand.of_body B)
    exact ⟨t, o, a1, b1, b2, b3⟩
/-! ===== END ===== -/
end
section
/-! ===== BEGIN printed: names, fields, word lists, decode rows ===== -/
def RX0 : String := "FalsePan$History"
def TX0 : u_T := fun k => match k with
  | 0 => ("FalsePan$History", "ring", "[LFalsePan$Table;", true)
  | 1 => ("FalsePan$History", "next", "I", false)
  | _ => ("FalsePan$History", "count", "I", false)
def tyX0 : Nat → FieldType := fun k => match k with
  | 0 => .array (.object "FalsePan$Table")
  | 1 => .int
  | _ => .int
theorem nmX0 : ∀ a, a < 3 → ∀ b, b < 3 → a ≠ b → (TX0 a).2.1 ≠ (TX0 b).2.1 := by decide +kernel
theorem tyX0_ok : ∀ k, k < 3 → parseFieldDescriptor (TX0 k).2.2.1 = some (tyX0 k) := by decide +kernel
abbrev cX0_init : ByteArray := prog_2_method_1_code
def yX0_init : MethodName := ⟨RX0, "<init>", "()V"⟩
abbrev cX0_clear : ByteArray := prog_2_method_2_code
def yX0_clear : MethodName := ⟨RX0, "clear", "()V"⟩
abbrev cX0_remember : ByteArray := prog_2_method_3_code
def yX0_remember : MethodName := ⟨RX0, "remember", "(LFalsePan$Table;)V"⟩
abbrev cX0_takeBack : ByteArray := prog_2_method_4_code
def yX0_takeBack : MethodName := ⟨RX0, "takeBack", "(LFalsePan$Table;)V"⟩
abbrev cX0_placeAt : ByteArray := prog_2_method_5_code
def yX0_placeAt : MethodName := ⟨RX0, "placeAt", "(I)LFalsePan$Table;"⟩
def RX1 : String := "FalsePan$Scale"
def TX1 : u_T := fun k => match k with
  | 0 => ("FalsePan$Scale", "left", "I", false)
  | 1 => ("FalsePan$Scale", "right", "I", false)
  | 2 => ("FalsePan$Scale", "leftArm", "I", false)
  | 3 => ("FalsePan$Scale", "rightArm", "I", false)
  | 4 => ("FalsePan$Scale", "leftTrueWeight", "I", false)
  | _ => ("FalsePan$Scale", "rightTrueWeight", "I", false)
def tyX1 : Nat → FieldType := fun k => match k with
  | 0 => .int
  | 1 => .int
  | 2 => .int
  | 3 => .int
  | 4 => .int
  | _ => .int
theorem nmX1 : ∀ a, a < 6 → ∀ b, b < 6 → a ≠ b → (TX1 a).2.1 ≠ (TX1 b).2.1 := by decide +kernel
theorem tyX1_ok : ∀ k, k < 6 → parseFieldDescriptor (TX1 k).2.2.1 = some (tyX1 k) := by decide +kernel
abbrev cX1_init : ByteArray := prog_3_method_1_code
def yX1_init : MethodName := ⟨RX1, "<init>", "()V"⟩
abbrev cX1_set : ByteArray := prog_3_method_2_code
def yX1_set : MethodName := ⟨RX1, "set", "(IIII)V"⟩
abbrev cX1_outcome : ByteArray := prog_3_method_3_code
def yX1_outcome : MethodName := ⟨RX1, "outcome", "(III)I"⟩
abbrev cX1_outcomeInCase : ByteArray := prog_3_method_4_code
def yX1_outcomeInCase : MethodName := ⟨RX1, "outcomeInCase", "(I)I"⟩
def RX2 : String := "FalsePan$Slot"
def TX2 : u_T := fun k => match k with
  | 0 => ("FalsePan$Slot", "saved", "LFalsePan$Table;", true)
  | _ => ("FalsePan$Slot", "filled", "Z", false)
def tyX2 : Nat → FieldType := fun k => match k with
  | 0 => .object "FalsePan$Table"
  | _ => .boolean
theorem nmX2 : ∀ a, a < 2 → ∀ b, b < 2 → a ≠ b → (TX2 a).2.1 ≠ (TX2 b).2.1 := by decide +kernel
theorem tyX2_ok : ∀ k, k < 2 → parseFieldDescriptor (TX2 k).2.2.1 = some (tyX2 k) := by decide +kernel
abbrev cX2_init : ByteArray := prog_4_method_1_code
def yX2_init : MethodName := ⟨RX2, "<init>", "()V"⟩
def RX3 : String := "FalsePan$Suspects"
def TX3 : u_T := fun k => match k with
  | _ => ("FalsePan$Suspects", "sets", "[I", true)
def tyX3 : Nat → FieldType := fun k => match k with
  | _ => .array .int
theorem nmX3 : ∀ a, a < 1 → ∀ b, b < 1 → a ≠ b → (TX3 a).2.1 ≠ (TX3 b).2.1 := by decide +kernel
theorem tyX3_ok : ∀ k, k < 1 → parseFieldDescriptor (TX3 k).2.2.1 = some (tyX3 k) := by decide +kernel
abbrev cX3_init : ByteArray := prog_5_method_1_code
def yX3_init : MethodName := ⟨RX3, "<init>", "()V"⟩
abbrev cX3_copyFrom : ByteArray := prog_5_method_2_code
def yX3_copyFrom : MethodName := ⟨RX3, "copyFrom", "(LFalsePan$Suspects;)V"⟩
abbrev cX3_suspectAll : ByteArray := prog_5_method_3_code
def yX3_suspectAll : MethodName := ⟨RX3, "suspectAll", "(I)V"⟩
abbrev cX3_has : ByteArray := prog_5_method_4_code
def yX3_has : MethodName := ⟨RX3, "has", "(I)Z"⟩
abbrev cX3_count : ByteArray := prog_5_method_5_code
def yX3_count : MethodName := ⟨RX3, "count", "()I"⟩
abbrev cX3_coinMayBe : ByteArray := prog_5_method_6_code
def yX3_coinMayBe : MethodName := ⟨RX3, "coinMayBe", "(I)I"⟩
abbrev cX3_pansMayBe : ByteArray := prog_5_method_7_code
def yX3_pansMayBe : MethodName := ⟨RX3, "pansMayBe", "()I"⟩
abbrev cX3_keep : ByteArray := prog_5_method_8_code
def yX3_keep : MethodName := ⟨RX3, "keep", "(LFalsePan$Scale;I)V"⟩
abbrev cX3_sort : ByteArray := prog_5_method_9_code
def yX3_sort : MethodName := ⟨RX3, "sort", "(LFalsePan$Scale;LFalsePan$Tally;)V"⟩
def RX4 : String := "FalsePan$Table"
def TX4 : u_T := fun k => match k with
  | 0 => ("FalsePan$Table", "coins", "I", false)
  | 1 => ("FalsePan$Table", "hidden", "I", false)
  | 2 => ("FalsePan$Table", "leftArm", "I", false)
  | 3 => ("FalsePan$Table", "rightArm", "I", false)
  | 4 => ("FalsePan$Table", "rightly", "I", false)
  | 5 => ("FalsePan$Table", "wrongly", "I", false)
  | 6 => ("FalsePan$Table", "weighings", "I", false)
  | 7 => ("FalsePan$Table", "record", "[I", true)
  | 8 => ("FalsePan$Table", "suspects", "LFalsePan$Suspects;", true)
  | _ => ("FalsePan$Table", "scale", "LFalsePan$Scale;", true)
def tyX4 : Nat → FieldType := fun k => match k with
  | 0 => .int
  | 1 => .int
  | 2 => .int
  | 3 => .int
  | 4 => .int
  | 5 => .int
  | 6 => .int
  | 7 => .array .int
  | 8 => .object "FalsePan$Suspects"
  | _ => .object "FalsePan$Scale"
theorem nmX4 : ∀ a, a < 10 → ∀ b, b < 10 → a ≠ b → (TX4 a).2.1 ≠ (TX4 b).2.1 := by decide +kernel
theorem tyX4_ok : ∀ k, k < 10 → parseFieldDescriptor (TX4 k).2.2.1 = some (tyX4 k) := by decide +kernel
abbrev cX4_init : ByteArray := prog_6_method_1_code
def yX4_init : MethodName := ⟨RX4, "<init>", "()V"⟩
abbrev cX4_reset : ByteArray := prog_6_method_2_code
def yX4_reset : MethodName := ⟨RX4, "reset", "()V"⟩
abbrev cX4_copyFrom : ByteArray := prog_6_method_3_code
def yX4_copyFrom : MethodName := ⟨RX4, "copyFrom", "(LFalsePan$Table;)V"⟩
abbrev cX4_layOut : ByteArray := prog_6_method_4_code
def yX4_layOut : MethodName := ⟨RX4, "layOut", "(II)V"⟩
abbrev cX4_allCases : ByteArray := prog_6_method_5_code
def yX4_allCases : MethodName := ⟨RX4, "allCases", "()I"⟩
abbrev cX4_hasCoin : ByteArray := prog_6_method_6_code
def yX4_hasCoin : MethodName := ⟨RX4, "hasCoin", "(I)Z"⟩
abbrev cX4_isFull : ByteArray := prog_6_method_7_code
def yX4_isFull : MethodName := ⟨RX4, "isFull", "()Z"⟩
abbrev cX4_canWeigh : ByteArray := prog_6_method_8_code
def yX4_canWeigh : MethodName := ⟨RX4, "canWeigh", "(II)Z"⟩
abbrev cX4_tryArms : ByteArray := prog_6_method_9_code
def yX4_tryArms : MethodName := ⟨RX4, "tryArms", "(II)Z"⟩
abbrev cX4_tryWeighing : ByteArray := prog_6_method_10_code
def yX4_tryWeighing : MethodName := ⟨RX4, "tryWeighing", "(II)Z"⟩
abbrev cX4_lastOutcome : ByteArray := prog_6_method_11_code
def yX4_lastOutcome : MethodName := ⟨RX4, "lastOutcome", "()I"⟩
abbrev cX4_tryForgetting : ByteArray := prog_6_method_12_code
def yX4_tryForgetting : MethodName := ⟨RX4, "tryForgetting", "()Z"⟩
abbrev cX4_blameCoin : ByteArray := prog_6_method_13_code
def yX4_blameCoin : MethodName := ⟨RX4, "blameCoin", "(IZ)Z"⟩
abbrev cX4_blamePan : ByteArray := prog_6_method_14_code
def yX4_blamePan : MethodName := ⟨RX4, "blamePan", "(I)Z"⟩
abbrev cX4_noteBlame : ByteArray := prog_6_method_15_code
def yX4_noteBlame : MethodName := ⟨RX4, "noteBlame", "(Z)Z"⟩
abbrev cX4_idleWeighings : ByteArray := prog_6_method_16_code
def yX4_idleWeighings : MethodName := ⟨RX4, "idleWeighings", "()I"⟩
abbrev cX4_foresee : ByteArray := prog_6_method_17_code
def yX4_foresee : MethodName := ⟨RX4, "foresee", "(IILFalsePan$Tally;)V"⟩
abbrev cX4_foreseeWith : ByteArray := prog_6_method_18_code
def yX4_foreseeWith : MethodName := ⟨RX4, "foreseeWith", "(IIIILFalsePan$Tally;)V"⟩
abbrev cX4_kept : ByteArray := prog_6_method_19_code
def yX4_kept : MethodName := ⟨RX4, "kept", "(II)I"⟩
abbrev cX4_write : ByteArray := prog_6_method_20_code
def yX4_write : MethodName := ⟨RX4, "write", "(III)V"⟩
def RX5 : String := "FalsePan$Tally"
def TX5 : u_T := fun k => match k with
  | 0 => ("FalsePan$Tally", "level", "I", false)
  | 1 => ("FalsePan$Tally", "leftSinks", "I", false)
  | _ => ("FalsePan$Tally", "rightSinks", "I", false)
def tyX5 : Nat → FieldType := fun k => match k with
  | 0 => .int
  | 1 => .int
  | _ => .int
theorem nmX5 : ∀ a, a < 3 → ∀ b, b < 3 → a ≠ b → (TX5 a).2.1 ≠ (TX5 b).2.1 := by decide +kernel
theorem tyX5_ok : ∀ k, k < 3 → parseFieldDescriptor (TX5 k).2.2.1 = some (tyX5 k) := by decide +kernel
abbrev cX5_init : ByteArray := prog_7_method_1_code
def yX5_init : MethodName := ⟨RX5, "<init>", "()V"⟩
abbrev cX5_clear : ByteArray := prog_7_method_2_code
def yX5_clear : MethodName := ⟨RX5, "clear", "()V"⟩
abbrev cX5_add : ByteArray := prog_7_method_3_code
def yX5_add : MethodName := ⟨RX5, "add", "(II)V"⟩
abbrev cX5_of : ByteArray := prog_7_method_4_code
def yX5_of : MethodName := ⟨RX5, "of", "(I)I"⟩
abbrev cX5_worst : ByteArray := prog_7_method_5_code
def yX5_worst : MethodName := ⟨RX5, "worst", "()I"⟩
abbrev cX5_unlikePairs : ByteArray := prog_7_method_6_code
def yX5_unlikePairs : MethodName := ⟨RX5, "unlikePairs", "()I"⟩
def RX6 : String := "FalsePan$Text"
def TX6 : u_T := fun k => match k with
  | 0 => ("FalsePan$Text", "signs", "[C", true)
  | 1 => ("FalsePan$Text", "length", "I", false)
  | 2 => ("FalsePan$Text", "at", "I", false)
  | 3 => ("FalsePan$Text", "wrong", "Z", false)
  | 4 => ("FalsePan$Text", "coins", "I", false)
  | 5 => ("FalsePan$Text", "hidden", "I", false)
  | 6 => ("FalsePan$Text", "command", "I", false)
  | 7 => ("FalsePan$Text", "first", "I", false)
  | _ => ("FalsePan$Text", "second", "I", false)
def tyX6 : Nat → FieldType := fun k => match k with
  | 0 => .array .char
  | 1 => .int
  | 2 => .int
  | 3 => .boolean
  | 4 => .int
  | 5 => .int
  | 6 => .int
  | 7 => .int
  | _ => .int
theorem nmX6 : ∀ a, a < 9 → ∀ b, b < 9 → a ≠ b → (TX6 a).2.1 ≠ (TX6 b).2.1 := by decide +kernel
theorem tyX6_ok : ∀ k, k < 9 → parseFieldDescriptor (TX6 k).2.2.1 = some (tyX6 k) := by decide +kernel
abbrev cX6_init : ByteArray := prog_8_method_1_code
def yX6_init : MethodName := ⟨RX6, "<init>", "()V"⟩
abbrev cX6_add : ByteArray := prog_8_method_2_code
def yX6_add : MethodName := ⟨RX6, "add", "(C)V"⟩
abbrev cX6_hasMore : ByteArray := prog_8_method_3_code
def yX6_hasMore : MethodName := ⟨RX6, "hasMore", "()Z"⟩
abbrev cX6_readHead : ByteArray := prog_8_method_4_code
def yX6_readHead : MethodName := ⟨RX6, "readHead", "()V"⟩
abbrev cX6_readCommand : ByteArray := prog_8_method_5_code
def yX6_readCommand : MethodName := ⟨RX6, "readCommand", "()V"⟩
abbrev cX6_nextSign : ByteArray := prog_8_method_6_code
def yX6_nextSign : MethodName := ⟨RX6, "nextSign", "()I"⟩
abbrev cX6_readOneOf : ByteArray := prog_8_method_7_code
def yX6_readOneOf : MethodName := ⟨RX6, "readOneOf", "(Ljava/lang/String;)I"⟩
abbrev cX6_readDigit : ByteArray := prog_8_method_8_code
def yX6_readDigit : MethodName := ⟨RX6, "readDigit", "(II)I"⟩
abbrev cX6_readNumber : ByteArray := prog_8_method_9_code
def yX6_readNumber : MethodName := ⟨RX6, "readNumber", "(II)I"⟩
abbrev cX6_readCoins : ByteArray := prog_8_method_10_code
def yX6_readCoins : MethodName := ⟨RX6, "readCoins", "()I"⟩
def RX7 : String := "FalsePan"
def TX7 : u_T := fun k => match k with
  | 0 => ("FalsePan", "text", "LFalsePan$Text;", true)
  | 1 => ("FalsePan", "table", "LFalsePan$Table;", true)
  | 2 => ("FalsePan", "trial", "LFalsePan$Table;", true)
  | 3 => ("FalsePan", "history", "LFalsePan$History;", true)
  | 4 => ("FalsePan", "firstSlot", "LFalsePan$Slot;", true)
  | 5 => ("FalsePan", "secondSlot", "LFalsePan$Slot;", true)
  | 6 => ("FalsePan", "tally", "LFalsePan$Tally;", true)
  | 7 => ("FalsePan", "singles", "[I", true)
  | _ => ("FalsePan", "pairs", "[I", true)
def tyX7 : Nat → FieldType := fun k => match k with
  | 0 => .object "FalsePan$Text"
  | 1 => .object "FalsePan$Table"
  | 2 => .object "FalsePan$Table"
  | 3 => .object "FalsePan$History"
  | 4 => .object "FalsePan$Slot"
  | 5 => .object "FalsePan$Slot"
  | 6 => .object "FalsePan$Tally"
  | 7 => .array .int
  | _ => .array .int
theorem nmX7 : ∀ a, a < 9 → ∀ b, b < 9 → a ≠ b → (TX7 a).2.1 ≠ (TX7 b).2.1 := by decide +kernel
theorem tyX7_ok : ∀ k, k < 9 → parseFieldDescriptor (TX7 k).2.2.1 = some (tyX7 k) := by decide +kernel
abbrev cX7_init : ByteArray := prog_1_method_1_code
def yX7_init : MethodName := ⟨RX7, "<init>", "()V"⟩
abbrev cX7_append : ByteArray := prog_1_method_2_code
def yX7_append : MethodName := ⟨RX7, "append", "(I)I"⟩
abbrev cX7_clearText : ByteArray := prog_1_method_3_code
def yX7_clearText : MethodName := ⟨RX7, "clearText", "()I"⟩
abbrev cX7_errorPosition : ByteArray := prog_1_method_4_code
def yX7_errorPosition : MethodName := ⟨RX7, "errorPosition", "()I"⟩
abbrev cX7_load : ByteArray := prog_1_method_5_code
def yX7_load : MethodName := ⟨RX7, "load", "()I"⟩
abbrev cX7_obeyText : ByteArray := prog_1_method_6_code
def yX7_obeyText : MethodName := ⟨RX7, "obeyText", "()Z"⟩
abbrev cX7_about : ByteArray := prog_1_method_7_code
def yX7_about : MethodName := ⟨RX7, "about", "(I)I"⟩
abbrev cX7_coin : ByteArray := prog_1_method_8_code
def yX7_coin : MethodName := ⟨RX7, "coin", "(I)I"⟩
abbrev cX7_pans : ByteArray := prog_1_method_9_code
def yX7_pans : MethodName := ⟨RX7, "pans", "()I"⟩
abbrev cX7_isLeft : ByteArray := prog_1_method_10_code
def yX7_isLeft : MethodName := ⟨RX7, "isLeft", "(I)I"⟩
abbrev cX7_weighing : ByteArray := prog_1_method_11_code
def yX7_weighing : MethodName := ⟨RX7, "weighing", "(II)I"⟩
abbrev cX7_hide : ByteArray := prog_1_method_12_code
def yX7_hide : MethodName := ⟨RX7, "hide", "(II)I"⟩
abbrev cX7_arms : ByteArray := prog_1_method_13_code
def yX7_arms : MethodName := ⟨RX7, "arms", "(II)I"⟩
abbrev cX7_weigh : ByteArray := prog_1_method_14_code
def yX7_weigh : MethodName := ⟨RX7, "weigh", "(II)I"⟩
abbrev cX7_accuse : ByteArray := prog_1_method_15_code
def yX7_accuse : MethodName := ⟨RX7, "accuse", "(IZ)I"⟩
abbrev cX7_accusePan : ByteArray := prog_1_method_16_code
def yX7_accusePan : MethodName := ⟨RX7, "accusePan", "(I)I"⟩
abbrev cX7_forget : ByteArray := prog_1_method_17_code
def yX7_forget : MethodName := ⟨RX7, "forget", "()I"⟩
abbrev cX7_undo : ByteArray := prog_1_method_18_code
def yX7_undo : MethodName := ⟨RX7, "undo", "()I"⟩
abbrev cX7_leaves : ByteArray := prog_1_method_19_code
def yX7_leaves : MethodName := ⟨RX7, "leaves", "(III)I"⟩
abbrev cX7_best : ByteArray := prog_1_method_20_code
def yX7_best : MethodName := ⟨RX7, "best", "(II)I"⟩
abbrev cX7_sharpest : ByteArray := prog_1_method_21_code
def yX7_sharpest : MethodName := ⟨RX7, "sharpest", "()I"⟩
abbrev cX7_needs : ByteArray := prog_1_method_22_code
def yX7_needs : MethodName := ⟨RX7, "needs", "()I"⟩
abbrev cX7_bestArms : ByteArray := prog_1_method_23_code
def yX7_bestArms : MethodName := ⟨RX7, "bestArms", "(II)I"⟩
abbrev cX7_runScript : ByteArray := prog_1_method_24_code
def yX7_runScript : MethodName := ⟨RX7, "runScript", "(IJ)I"⟩
abbrev cX7_simulate : ByteArray := prog_1_method_25_code
def yX7_simulate : MethodName := ⟨RX7, "simulate", "(JI)I"⟩
abbrev cX7_save : ByteArray := prog_1_method_26_code
def yX7_save : MethodName := ⟨RX7, "save", "(I)I"⟩
abbrev cX7_restore : ByteArray := prog_1_method_27_code
def yX7_restore : MethodName := ⟨RX7, "restore", "(I)I"⟩
abbrev cX7_refuseBadSets : ByteArray := prog_1_method_28_code
def yX7_refuseBadSets : MethodName := ⟨RX7, "refuseBadSets", "(II)V"⟩
abbrev cX7_obeyGroup : ByteArray := prog_1_method_29_code
def yX7_obeyGroup : MethodName := ⟨RX7, "obeyGroup", "(I)Z"⟩
abbrev cX7_tryCoins : ByteArray := prog_1_method_30_code
def yX7_tryCoins : MethodName := ⟨RX7, "tryCoins", "(II)Z"⟩
abbrev cX7_takeTurn : ByteArray := prog_1_method_31_code
def yX7_takeTurn : MethodName := ⟨RX7, "takeTurn", "(I)V"⟩
abbrev cX7_withoutGroups : ByteArray := prog_1_method_32_code
def yX7_withoutGroups : MethodName := ⟨RX7, "withoutGroups", "(JI)J"⟩
abbrev cX7_weighingsFor : ByteArray := prog_1_method_33_code
def yX7_weighingsFor : MethodName := ⟨RX7, "weighingsFor", "(I)I"⟩
abbrev cX7_casesOf : ByteArray := prog_1_method_34_code
def yX7_casesOf : MethodName := ⟨RX7, "casesOf", "(I)I"⟩
abbrev cX7_isArm : ByteArray := prog_1_method_35_code
def yX7_isArm : MethodName := ⟨RX7, "isArm", "(I)Z"⟩
abbrev cX7_isPan : ByteArray := prog_1_method_36_code
def yX7_isPan : MethodName := ⟨RX7, "isPan", "(I)Z"⟩
abbrev cX7_setsOfOne : ByteArray := prog_1_method_37_code
def yX7_setsOfOne : MethodName := ⟨RX7, "setsOfOne", "()[I"⟩
abbrev cX7_setsOfTwo : ByteArray := prog_1_method_38_code
def yX7_setsOfTwo : MethodName := ⟨RX7, "setsOfTwo", "()[I"⟩
def RX8 : String := "FalsePanModel"
def TX8 : u_T := fun k => match k with
  | 0 => ("FalsePanModel", "refusal", "I", false)
  | 1 => ("FalsePanModel", "text", "[I", true)
  | 2 => ("FalsePanModel", "size", "I", false)
  | 3 => ("FalsePanModel", "now", "[I", true)
  | 4 => ("FalsePanModel", "trial", "[I", true)
  | 5 => ("FalsePanModel", "diary", "[I", true)
  | 6 => ("FalsePanModel", "acts", "I", false)
  | 7 => ("FalsePanModel", "kept", "[I", true)
  | 8 => ("FalsePanModel", "isKept", "[Z", true)
  | 9 => ("FalsePanModel", "cases", "[I", true)
  | 10 => ("FalsePanModel", "left", "I", false)
  | 11 => ("FalsePanModel", "counts", "[I", true)
  | 12 => ("FalsePanModel", "spot", "I", false)
  | _ => ("FalsePanModel", "out", "I", false)
def tyX8 : Nat → FieldType := fun k => match k with
  | 0 => .int
  | 1 => .array .int
  | 2 => .int
  | 3 => .array .int
  | 4 => .array .int
  | 5 => .array .int
  | 6 => .int
  | 7 => .array .int
  | 8 => .array .boolean
  | 9 => .array .int
  | 10 => .int
  | 11 => .array .int
  | 12 => .int
  | _ => .int
theorem nmX8 : ∀ a, a < 14 → ∀ b, b < 14 → a ≠ b → (TX8 a).2.1 ≠ (TX8 b).2.1 := by decide +kernel
theorem tyX8_ok : ∀ k, k < 14 → parseFieldDescriptor (TX8 k).2.2.1 = some (tyX8 k) := by decide +kernel
abbrev cX8_init : ByteArray := prog_10_method_1_code
def yX8_init : MethodName := ⟨RX8, "<init>", "()V"⟩
abbrev cX8_thrown : ByteArray := prog_10_method_2_code
def yX8_thrown : MethodName := ⟨RX8, "thrown", "()I"⟩
abbrev cX8_refused : ByteArray := prog_10_method_3_code
def yX8_refused : MethodName := ⟨RX8, "refused", "(I)Z"⟩
abbrev cX8_in : ByteArray := prog_10_method_4_code
def yX8_in : MethodName := ⟨RX8, "in", "(JJJ)Z"⟩
abbrev cX8_copyState : ByteArray := prog_10_method_5_code
def yX8_copyState : MethodName := ⟨RX8, "copyState", "([II[II)V"⟩
abbrev cX8_clear : ByteArray := prog_10_method_6_code
def yX8_clear : MethodName := ⟨RX8, "clear", "([I)V"⟩
abbrev cX8_allOf : ByteArray := prog_10_method_7_code
def yX8_allOf : MethodName := ⟨RX8, "allOf", "(I)I"⟩
abbrev cX8_isCoin : ByteArray := prog_10_method_8_code
def yX8_isCoin : MethodName := ⟨RX8, "isCoin", "([II)Z"⟩
abbrev cX8_isCoins : ByteArray := prog_10_method_9_code
def yX8_isCoins : MethodName := ⟨RX8, "isCoins", "(I)Z"⟩
abbrev cX8_isArms : ByteArray := prog_10_method_10_code
def yX8_isArms : MethodName := ⟨RX8, "isArms", "(II)Z"⟩
abbrev cX8_isSet : ByteArray := prog_10_method_11_code
def yX8_isSet : MethodName := ⟨RX8, "isSet", "([II)Z"⟩
abbrev cX8_isWeighing : ByteArray := prog_10_method_12_code
def yX8_isWeighing : MethodName := ⟨RX8, "isWeighing", "([III)Z"⟩
abbrev cX8_bits : ByteArray := prog_10_method_13_code
def yX8_bits : MethodName := ⟨RX8, "bits", "(I)I"⟩
abbrev cX8_weight : ByteArray := prog_10_method_14_code
def yX8_weight : MethodName := ⟨RX8, "weight", "(II)I"⟩
abbrev cX8_outcome : ByteArray := prog_10_method_15_code
def yX8_outcome : MethodName := ⟨RX8, "outcome", "(IIIII)I"⟩
abbrev cX8_at : ByteArray := prog_10_method_16_code
def yX8_at : MethodName := ⟨RX8, "at", "(I)I"⟩
abbrev cX8_fits : ByteArray := prog_10_method_17_code
def yX8_fits : MethodName := ⟨RX8, "fits", "([III)Z"⟩
abbrev cX8_many : ByteArray := prog_10_method_18_code
def yX8_many : MethodName := ⟨RX8, "many", "([II)I"⟩
abbrev cX8_leftOf : ByteArray := prog_10_method_19_code
def yX8_leftOf : MethodName := ⟨RX8, "leftOf", "([I)I"⟩
abbrev cX8_gather : ByteArray := prog_10_method_20_code
def yX8_gather : MethodName := ⟨RX8, "gather", "([I)V"⟩
abbrev cX8_worst : ByteArray := prog_10_method_21_code
def yX8_worst : MethodName := ⟨RX8, "worst", "(IIII)I"⟩
abbrev cX8_coinOf : ByteArray := prog_10_method_22_code
def yX8_coinOf : MethodName := ⟨RX8, "coinOf", "([II)I"⟩
abbrev cX8_pansOf : ByteArray := prog_10_method_23_code
def yX8_pansOf : MethodName := ⟨RX8, "pansOf", "([I)I"⟩
abbrev cX8_needsOf : ByteArray := prog_10_method_24_code
def yX8_needsOf : MethodName := ⟨RX8, "needsOf", "([I)I"⟩
abbrev cX8_hideOn : ByteArray := prog_10_method_25_code
def yX8_hideOn : MethodName := ⟨RX8, "hideOn", "([III)I"⟩
abbrev cX8_armsOn : ByteArray := prog_10_method_26_code
def yX8_armsOn : MethodName := ⟨RX8, "armsOn", "([III)I"⟩
abbrev cX8_canWeigh : ByteArray := prog_10_method_27_code
def yX8_canWeigh : MethodName := ⟨RX8, "canWeigh", "([III)Z"⟩
abbrev cX8_weighOn : ByteArray := prog_10_method_28_code
def yX8_weighOn : MethodName := ⟨RX8, "weighOn", "([III)I"⟩
abbrev cX8_told : ByteArray := prog_10_method_29_code
def yX8_told : MethodName := ⟨RX8, "told", "([IZ)I"⟩
abbrev cX8_accuseOn : ByteArray := prog_10_method_30_code
def yX8_accuseOn : MethodName := ⟨RX8, "accuseOn", "([IIZ)I"⟩
abbrev cX8_forgetOn : ByteArray := prog_10_method_31_code
def yX8_forgetOn : MethodName := ⟨RX8, "forgetOn", "([I)I"⟩
abbrev cX8_append : ByteArray := prog_10_method_32_code
def yX8_append : MethodName := ⟨RX8, "append", "(I)I"⟩
abbrev cX8_clearText : ByteArray := prog_10_method_33_code
def yX8_clearText : MethodName := ⟨RX8, "clearText", "()I"⟩
abbrev cX8_sign : ByteArray := prog_10_method_34_code
def yX8_sign : MethodName := ⟨RX8, "sign", "()I"⟩
abbrev cX8_figures : ByteArray := prog_10_method_35_code
def yX8_figures : MethodName := ⟨RX8, "figures", "(IIII)I"⟩
abbrev cX8_letters : ByteArray := prog_10_method_36_code
def yX8_letters : MethodName := ⟨RX8, "letters", "(I)I"⟩
abbrev cX8_done : ByteArray := prog_10_method_37_code
def yX8_done : MethodName := ⟨RX8, "done", "(Z)Z"⟩
abbrev cX8_readCommand : ByteArray := prog_10_method_38_code
def yX8_readCommand : MethodName := ⟨RX8, "readCommand", "([I)Z"⟩
abbrev cX8_readCase : ByteArray := prog_10_method_39_code
def yX8_readCase : MethodName := ⟨RX8, "readCase", "([I)Z"⟩
abbrev cX8_readText : ByteArray := prog_10_method_40_code
def yX8_readText : MethodName := ⟨RX8, "readText", "([I)I"⟩
abbrev cX8_errorPosition : ByteArray := prog_10_method_41_code
def yX8_errorPosition : MethodName := ⟨RX8, "errorPosition", "()I"⟩
abbrev cX8_load : ByteArray := prog_10_method_42_code
def yX8_load : MethodName := ⟨RX8, "load", "()I"⟩
abbrev cX8_about : ByteArray := prog_10_method_43_code
def yX8_about : MethodName := ⟨RX8, "about", "(I)I"⟩
abbrev cX8_coin : ByteArray := prog_10_method_44_code
def yX8_coin : MethodName := ⟨RX8, "coin", "(I)I"⟩
abbrev cX8_pans : ByteArray := prog_10_method_45_code
def yX8_pans : MethodName := ⟨RX8, "pans", "()I"⟩
abbrev cX8_isLeft : ByteArray := prog_10_method_46_code
def yX8_isLeft : MethodName := ⟨RX8, "isLeft", "(I)I"⟩
abbrev cX8_weighing : ByteArray := prog_10_method_47_code
def yX8_weighing : MethodName := ⟨RX8, "weighing", "(II)I"⟩
abbrev cX8_remember : ByteArray := prog_10_method_48_code
def yX8_remember : MethodName := ⟨RX8, "remember", "()V"⟩
abbrev cX8_hide : ByteArray := prog_10_method_49_code
def yX8_hide : MethodName := ⟨RX8, "hide", "(II)I"⟩
abbrev cX8_arms : ByteArray := prog_10_method_50_code
def yX8_arms : MethodName := ⟨RX8, "arms", "(II)I"⟩
abbrev cX8_weigh : ByteArray := prog_10_method_51_code
def yX8_weigh : MethodName := ⟨RX8, "weigh", "(II)I"⟩
abbrev cX8_accuse : ByteArray := prog_10_method_52_code
def yX8_accuse : MethodName := ⟨RX8, "accuse", "(IZ)I"⟩
abbrev cX8_accusePan : ByteArray := prog_10_method_53_code
def yX8_accusePan : MethodName := ⟨RX8, "accusePan", "(I)I"⟩
abbrev cX8_forget : ByteArray := prog_10_method_54_code
def yX8_forget : MethodName := ⟨RX8, "forget", "()I"⟩
abbrev cX8_undo : ByteArray := prog_10_method_55_code
def yX8_undo : MethodName := ⟨RX8, "undo", "()I"⟩
abbrev cX8_leaves : ByteArray := prog_10_method_56_code
def yX8_leaves : MethodName := ⟨RX8, "leaves", "(III)I"⟩
abbrev cX8_best : ByteArray := prog_10_method_57_code
def yX8_best : MethodName := ⟨RX8, "best", "(II)I"⟩
abbrev cX8_sharpest : ByteArray := prog_10_method_58_code
def yX8_sharpest : MethodName := ⟨RX8, "sharpest", "()I"⟩
abbrev cX8_needs : ByteArray := prog_10_method_59_code
def yX8_needs : MethodName := ⟨RX8, "needs", "()I"⟩
abbrev cX8_bestArms : ByteArray := prog_10_method_60_code
def yX8_bestArms : MethodName := ⟨RX8, "bestArms", "(II)I"⟩
abbrev cX8_weighs : ByteArray := prog_10_method_61_code
def yX8_weighs : MethodName := ⟨RX8, "weighs", "(II)Z"⟩
abbrev cX8_command : ByteArray := prog_10_method_62_code
def yX8_command : MethodName := ⟨RX8, "command", "(II)Z"⟩
abbrev cX8_runScript : ByteArray := prog_10_method_63_code
def yX8_runScript : MethodName := ⟨RX8, "runScript", "(IJ)I"⟩
abbrev cX8_turn : ByteArray := prog_10_method_64_code
def yX8_turn : MethodName := ⟨RX8, "turn", "([II)V"⟩
abbrev cX8_simulate : ByteArray := prog_10_method_65_code
def yX8_simulate : MethodName := ⟨RX8, "simulate", "(JI)I"⟩
abbrev cX8_save : ByteArray := prog_10_method_66_code
def yX8_save : MethodName := ⟨RX8, "save", "(I)I"⟩
abbrev cX8_restore : ByteArray := prog_10_method_67_code
def yX8_restore : MethodName := ⟨RX8, "restore", "(I)I"⟩
def RJ11 : String := "java/lang/Character"
def TJ11 : u_T := fun k => match k with
  | _ => ("", "", "", false)
def tyJ11 : Nat → FieldType := fun k => match k with
  | _ => .int
theorem nmJ11 : ∀ a, a < 0 → ∀ b, b < 0 → a ≠ b → (TJ11 a).2.1 ≠ (TJ11 b).2.1 := by decide +kernel
theorem tyJ11_ok : ∀ k, k < 0 → parseFieldDescriptor (TJ11 k).2.2.1 = some (tyJ11 k) := by decide +kernel
abbrev cJ11_isValidCodePoint_9a6ad : ByteArray := prog_11_method_11_code
def yJ11_isValidCodePoint_9a6ad : MethodName := ⟨RJ11, "isValidCodePoint", "(I)Z"⟩
abbrev cJ11_highSurrogate_5068e : ByteArray := prog_11_method_28_code
def yJ11_highSurrogate_5068e : MethodName := ⟨RJ11, "highSurrogate", "(I)C"⟩
abbrev cJ11_lowSurrogate_5068e : ByteArray := prog_11_method_29_code
def yJ11_lowSurrogate_5068e : MethodName := ⟨RJ11, "lowSurrogate", "(I)C"⟩
def RJ6 : String := "java/lang/Integer"
def TJ6 : u_T := fun k => match k with
  | _ => ("", "", "", false)
def tyJ6 : Nat → FieldType := fun k => match k with
  | _ => .int
theorem nmJ6 : ∀ a, a < 0 → ∀ b, b < 0 → a ≠ b → (TJ6 a).2.1 ≠ (TJ6 b).2.1 := by decide +kernel
theorem tyJ6_ok : ∀ k, k < 0 → parseFieldDescriptor (TJ6 k).2.2.1 = some (tyJ6 k) := by decide +kernel
abbrev cJ6_bitCount_0f7a4 : ByteArray := prog_16_method_49_code
def yJ6_bitCount_0f7a4 : MethodName := ⟨RJ6, "bitCount", "(I)I"⟩
def RJ9 : String := "java/lang/Math"
def TJ9 : u_T := fun k => match k with
  | _ => ("", "", "", false)
def tyJ9 : Nat → FieldType := fun k => match k with
  | _ => .int
theorem nmJ9 : ∀ a, a < 0 → ∀ b, b < 0 → a ≠ b → (TJ9 a).2.1 ≠ (TJ9 b).2.1 := by decide +kernel
theorem tyJ9_ok : ∀ k, k < 0 → parseFieldDescriptor (TJ9 k).2.2.1 = some (tyJ9 k) := by decide +kernel
abbrev cJ9_max_7cf53 : ByteArray := prog_17_method_65_code
def yJ9_max_7cf53 : MethodName := ⟨RJ9, "max", "(II)I"⟩
abbrev cJ9_min_7cf53 : ByteArray := prog_17_method_69_code
def yJ9_min_7cf53 : MethodName := ⟨RJ9, "min", "(II)I"⟩
def RJ0 : String := "java/lang/String"
def TJ0 : u_T := fun k => match k with
  | _ => ("", "", "", false)
def tyJ0 : Nat → FieldType := fun k => match k with
  | _ => .int
theorem nmJ0 : ∀ a, a < 0 → ∀ b, b < 0 → a ≠ b → (TJ0 a).2.1 ≠ (TJ0 b).2.1 := by decide +kernel
theorem tyJ0_ok : ∀ k, k < 0 → parseFieldDescriptor (TJ0 k).2.2.1 = some (tyJ0 k) := by decide +kernel
abbrev cJ0_length_8abf5 : ByteArray := prog_19_method_54_code
def yJ0_length_8abf5 : MethodName := ⟨RJ0, "length", "()I"⟩
abbrev cJ0_indexOf_0f7a4 : ByteArray := prog_19_method_79_code
def yJ0_indexOf_0f7a4 : MethodName := ⟨RJ0, "indexOf", "(I)I"⟩
abbrev cJ0_indexOf_7cf53 : ByteArray := prog_19_method_80_code
def yJ0_indexOf_7cf53 : MethodName := ⟨RJ0, "indexOf", "(II)I"⟩
abbrev cJ0_coder_7d493 : ByteArray := prog_19_method_152_code
def yJ0_coder_7d493 : MethodName := ⟨RJ0, "coder", "()B"⟩
abbrev cJ0_isLatin1_aae02 : ByteArray := prog_19_method_154_code
def yJ0_isLatin1_aae02 : MethodName := ⟨RJ0, "isLatin1", "()Z"⟩
abbrev cJ0_checkBoundsBeginEnd_23922 : ByteArray := prog_19_method_158_code
def yJ0_checkBoundsBeginEnd_23922 : MethodName := ⟨RJ0, "checkBoundsBeginEnd", "(III)V"⟩
def RJ1 : String := "java/lang/StringLatin1"
def TJ1 : u_T := fun k => match k with
  | _ => ("", "", "", false)
def tyJ1 : Nat → FieldType := fun k => match k with
  | _ => .int
theorem nmJ1 : ∀ a, a < 0 → ∀ b, b < 0 → a ≠ b → (TJ1 a).2.1 ≠ (TJ1 b).2.1 := by decide +kernel
theorem tyJ1_ok : ∀ k, k < 0 → parseFieldDescriptor (TJ1 k).2.2.1 = some (tyJ1 k) := by decide +kernel
abbrev cJ1_canEncode_9a6ad : ByteArray := prog_20_method_4_code
def yJ1_canEncode_9a6ad : MethodName := ⟨RJ1, "canEncode", "(I)Z"⟩
abbrev cJ1_indexOf_4cfef : ByteArray := prog_20_method_22_code
def yJ1_indexOf_4cfef : MethodName := ⟨RJ1, "indexOf", "([BIII)I"⟩
abbrev cJ1_indexOfChar_4cfef : ByteArray := prog_20_method_23_code
def yJ1_indexOfChar_4cfef : MethodName := ⟨RJ1, "indexOfChar", "([BIII)I"⟩
def RJ2 : String := "java/lang/StringUTF16"
def TJ2 : u_T := fun k => match k with
  | _ => ("", "", "", false)
def tyJ2 : Nat → FieldType := fun k => match k with
  | _ => .int
theorem nmJ2 : ∀ a, a < 0 → ∀ b, b < 0 → a ≠ b → (TJ2 a).2.1 ≠ (TJ2 b).2.1 := by decide +kernel
theorem tyJ2_ok : ∀ k, k < 0 → parseFieldDescriptor (TJ2 k).2.2.1 = some (tyJ2 k) := by decide +kernel
abbrev cJ2_getChar_3b067 : ByteArray := prog_21_method_5_code
def yJ2_getChar_3b067 : MethodName := ⟨RJ2, "getChar", "([BI)C"⟩
abbrev cJ2_length_9d52b : ByteArray := prog_21_method_6_code
def yJ2_length_9d52b : MethodName := ⟨RJ2, "length", "([B)I"⟩
abbrev cJ2_indexOf_4cfef : ByteArray := prog_21_method_40_code
def yJ2_indexOf_4cfef : MethodName := ⟨RJ2, "indexOf", "([BIII)I"⟩
abbrev cJ2_indexOfChar_4cfef : ByteArray := prog_21_method_47_code
def yJ2_indexOfChar_4cfef : MethodName := ⟨RJ2, "indexOfChar", "([BIII)I"⟩
abbrev cJ2_indexOfCharUnsafe_4cfef : ByteArray := prog_21_method_48_code
def yJ2_indexOfCharUnsafe_4cfef : MethodName := ⟨RJ2, "indexOfCharUnsafe", "([BIII)I"⟩
abbrev cJ2_indexOfSupplementary_4cfef : ByteArray := prog_21_method_49_code
def yJ2_indexOfSupplementary_4cfef : MethodName := ⟨RJ2, "indexOfSupplementary", "([BIII)I"⟩
abbrev cJ2_checkBoundsBeginEnd_d044e : ByteArray := prog_21_method_93_code
def yJ2_checkBoundsBeginEnd_d044e : MethodName := ⟨RJ2, "checkBoundsBeginEnd", "(II[B)V"⟩
def RJ3 : String := "jdk/internal/util/Preconditions"
def TJ3 : u_T := fun k => match k with
  | _ => ("", "", "", false)
def tyJ3 : Nat → FieldType := fun k => match k with
  | _ => .int
theorem nmJ3 : ∀ a, a < 0 → ∀ b, b < 0 → a ≠ b → (TJ3 a).2.1 ≠ (TJ3 b).2.1 := by decide +kernel
theorem tyJ3_ok : ∀ k, k < 0 → parseFieldDescriptor (TJ3 k).2.2.1 = some (tyJ3 k) := by decide +kernel
abbrev cJ3_checkFromToIndex_8c36e : ByteArray := prog_23_method_12_code
def yJ3_checkFromToIndex_8c36e : MethodName := ⟨RJ3, "checkFromToIndex", "(IIILjava/util/function/BiFunction;)I"⟩
def RL : String := "FalsePanLaw"
abbrev cL_append : ByteArray := method_3_code
def yL_append : MethodName := ⟨RL, "append", "(LFalsePan;I[J)I"⟩
abbrev cL_load : ByteArray := method_4_code
def yL_load : MethodName := ⟨RL, "load", "(LFalsePan;[J)I"⟩
abbrev cL_about : ByteArray := method_5_code
def yL_about : MethodName := ⟨RL, "about", "(LFalsePan;I[J)I"⟩
abbrev cL_coin : ByteArray := method_6_code
def yL_coin : MethodName := ⟨RL, "coin", "(LFalsePan;I[J)I"⟩
abbrev cL_isLeft : ByteArray := method_7_code
def yL_isLeft : MethodName := ⟨RL, "isLeft", "(LFalsePan;I[J)I"⟩
abbrev cL_weighing : ByteArray := method_8_code
def yL_weighing : MethodName := ⟨RL, "weighing", "(LFalsePan;II[J)I"⟩
abbrev cL_hide : ByteArray := method_9_code
def yL_hide : MethodName := ⟨RL, "hide", "(LFalsePan;II[J)I"⟩
abbrev cL_arms : ByteArray := method_10_code
def yL_arms : MethodName := ⟨RL, "arms", "(LFalsePan;II[J)I"⟩
abbrev cL_weigh : ByteArray := method_11_code
def yL_weigh : MethodName := ⟨RL, "weigh", "(LFalsePan;II[J)I"⟩
abbrev cL_accuse : ByteArray := method_12_code
def yL_accuse : MethodName := ⟨RL, "accuse", "(LFalsePan;IZ[J)I"⟩
abbrev cL_accusePan : ByteArray := method_13_code
def yL_accusePan : MethodName := ⟨RL, "accusePan", "(LFalsePan;I[J)I"⟩
abbrev cL_forget : ByteArray := method_14_code
def yL_forget : MethodName := ⟨RL, "forget", "(LFalsePan;[J)I"⟩
abbrev cL_undo : ByteArray := method_15_code
def yL_undo : MethodName := ⟨RL, "undo", "(LFalsePan;[J)I"⟩
abbrev cL_leaves : ByteArray := method_16_code
def yL_leaves : MethodName := ⟨RL, "leaves", "(LFalsePan;III[J)I"⟩
abbrev cL_best : ByteArray := method_17_code
def yL_best : MethodName := ⟨RL, "best", "(LFalsePan;II[J)I"⟩
abbrev cL_bestArms : ByteArray := method_18_code
def yL_bestArms : MethodName := ⟨RL, "bestArms", "(LFalsePan;II[J)I"⟩
abbrev cL_runScript : ByteArray := method_19_code
def yL_runScript : MethodName := ⟨RL, "runScript", "(LFalsePan;IJ[J)I"⟩
abbrev cL_simulate : ByteArray := method_20_code
def yL_simulate : MethodName := ⟨RL, "simulate", "(LFalsePan;JI[J)I"⟩
abbrev cL_save : ByteArray := method_21_code
def yL_save : MethodName := ⟨RL, "save", "(LFalsePan;I[J)I"⟩
abbrev cL_restore : ByteArray := method_22_code
def yL_restore : MethodName := ⟨RL, "restore", "(LFalsePan;I[J)I"⟩
abbrev cL_law : ByteArray := code
def yL_law : MethodName := ⟨RL, "law", "([I)Z"⟩
abbrev vwCl : List vw_C := [(RX0, TX0, 3), (RX1, TX1, 6), (RX2, TX2, 2), (RX3, TX3, 1), (RX4, TX4, 10), (RX5, TX5, 3), (RX6, TX6, 9), (RX7, TX7, 9), (RX8, TX8, 14)]
end
section
theorem dX0_init_0 : decode cX0_init 0 = .ok (.aload_n 0, 1) := by decide +kernel
theorem dX0_init_1 : decode cX0_init 1 = .ok (.invokespecial 3, 3) := by decide +kernel
theorem dX0_init_4 : decode cX0_init 4 = .ok (.aload_n 0, 1) := by decide +kernel
theorem dX0_init_5 : decode cX0_init 5 = .ok (.bipush 14, 2) := by decide +kernel
theorem dX0_init_7 : decode cX0_init 7 = .ok (.anewarray 9, 3) := by decide +kernel
theorem dX0_init_10 : decode cX0_init 10 = .ok (.putfield 11, 3) := by decide +kernel
theorem dX0_init_13 : decode cX0_init 13 = .ok (.iconst 0, 1) := by decide +kernel
theorem dX0_init_14 : decode cX0_init 14 = .ok (.istore_n 1, 1) := by decide +kernel
theorem dX0_init_15 : decode cX0_init 15 = .ok (.iload_n 1, 1) := by decide +kernel
theorem dX0_init_16 : decode cX0_init 16 = .ok (.aload_n 0, 1) := by decide +kernel
theorem dX0_init_17 : decode cX0_init 17 = .ok (.getfield 11, 3) := by decide +kernel
theorem dX0_init_20 : decode cX0_init 20 = .ok (.arraylength, 1) := by decide +kernel
theorem dX0_init_21 : decode cX0_init 21 = .ok (.if_icmp .ge 22, 3) := by decide +kernel
theorem dX0_init_24 : decode cX0_init 24 = .ok (.aload_n 0, 1) := by decide +kernel
theorem dX0_init_25 : decode cX0_init 25 = .ok (.getfield 11, 3) := by decide +kernel
theorem dX0_init_28 : decode cX0_init 28 = .ok (.iload_n 1, 1) := by decide +kernel
theorem dX0_init_29 : decode cX0_init 29 = .ok (.new 9, 3) := by decide +kernel
theorem dX0_init_32 : decode cX0_init 32 = .ok (.dup, 1) := by decide +kernel
theorem dX0_init_33 : decode cX0_init 33 = .ok (.invokespecial 17, 3) := by decide +kernel
theorem dX0_init_36 : decode cX0_init 36 = .ok (.aastore, 1) := by decide +kernel
theorem dX0_init_37 : decode cX0_init 37 = .ok (.iinc 1 1, 3) := by decide +kernel
theorem dX0_init_40 : decode cX0_init 40 = .ok (.goto (-25), 3) := by decide +kernel
theorem dX0_init_43 : decode cX0_init 43 = .ok (.return_, 1) := by decide +kernel
theorem dX0_clear_0 : decode cX0_clear 0 = .ok (.aload_n 0, 1) := by decide +kernel
theorem dX0_clear_1 : decode cX0_clear 1 = .ok (.iconst 0, 1) := by decide +kernel
theorem dX0_clear_2 : decode cX0_clear 2 = .ok (.putfield 18, 3) := by decide +kernel
theorem dX0_clear_5 : decode cX0_clear 5 = .ok (.aload_n 0, 1) := by decide +kernel
theorem dX0_clear_6 : decode cX0_clear 6 = .ok (.iconst 0, 1) := by decide +kernel
theorem dX0_clear_7 : decode cX0_clear 7 = .ok (.putfield 22, 3) := by decide +kernel
theorem dX0_clear_10 : decode cX0_clear 10 = .ok (.return_, 1) := by decide +kernel
theorem dX0_remember_0 : decode cX0_remember 0 = .ok (.aload_n 0, 1) := by decide +kernel
theorem dX0_remember_1 : decode cX0_remember 1 = .ok (.aload_n 0, 1) := by decide +kernel
theorem dX0_remember_2 : decode cX0_remember 2 = .ok (.getfield 18, 3) := by decide +kernel
theorem dX0_remember_5 : decode cX0_remember 5 = .ok (.invokevirtual 25, 3) := by decide +kernel
theorem dX0_remember_8 : decode cX0_remember 8 = .ok (.astore_n 2, 1) := by decide +kernel
theorem dX0_remember_9 : decode cX0_remember 9 = .ok (.aload_n 2, 1) := by decide +kernel
theorem dX0_remember_10 : decode cX0_remember 10 = .ok (.ifnonnull 4, 3) := by decide +kernel
theorem dX0_remember_13 : decode cX0_remember 13 = .ok (.return_, 1) := by decide +kernel
theorem dX0_remember_14 : decode cX0_remember 14 = .ok (.aload_n 2, 1) := by decide +kernel
theorem dX0_remember_15 : decode cX0_remember 15 = .ok (.aload_n 1, 1) := by decide +kernel
theorem dX0_remember_16 : decode cX0_remember 16 = .ok (.invokevirtual 29, 3) := by decide +kernel
theorem dX0_remember_19 : decode cX0_remember 19 = .ok (.aload_n 0, 1) := by decide +kernel
theorem dX0_remember_20 : decode cX0_remember 20 = .ok (.aload_n 0, 1) := by decide +kernel
theorem dX0_remember_21 : decode cX0_remember 21 = .ok (.getfield 18, 3) := by decide +kernel
theorem dX0_remember_24 : decode cX0_remember 24 = .ok (.iconst 1, 1) := by decide +kernel
theorem dX0_remember_25 : decode cX0_remember 25 = .ok (.iadd, 1) := by decide +kernel
theorem dX0_remember_26 : decode cX0_remember 26 = .ok (.bipush 14, 2) := by decide +kernel
theorem dX0_remember_28 : decode cX0_remember 28 = .ok (.irem, 1) := by decide +kernel
theorem dX0_remember_29 : decode cX0_remember 29 = .ok (.putfield 18, 3) := by decide +kernel
theorem dX0_remember_32 : decode cX0_remember 32 = .ok (.aload_n 0, 1) := by decide +kernel
theorem dX0_remember_33 : decode cX0_remember 33 = .ok (.aload_n 0, 1) := by decide +kernel
theorem dX0_remember_34 : decode cX0_remember 34 = .ok (.getfield 22, 3) := by decide +kernel
theorem dX0_remember_37 : decode cX0_remember 37 = .ok (.iconst 1, 1) := by decide +kernel
theorem dX0_remember_38 : decode cX0_remember 38 = .ok (.iadd, 1) := by decide +kernel
theorem dX0_remember_39 : decode cX0_remember 39 = .ok (.bipush 14, 2) := by decide +kernel
theorem dX0_remember_41 : decode cX0_remember 41 = .ok (.invokestatic 33, 3) := by decide +kernel
theorem dX0_remember_44 : decode cX0_remember 44 = .ok (.putfield 22, 3) := by decide +kernel
theorem dX0_remember_47 : decode cX0_remember 47 = .ok (.return_, 1) := by decide +kernel
theorem dX0_takeBack_0 : decode cX0_takeBack 0 = .ok (.aload_n 0, 1) := by decide +kernel
theorem dX0_takeBack_1 : decode cX0_takeBack 1 = .ok (.getfield 18, 3) := by decide +kernel
theorem dX0_takeBack_4 : decode cX0_takeBack 4 = .ok (.bipush 14, 2) := by decide +kernel
theorem dX0_takeBack_6 : decode cX0_takeBack 6 = .ok (.iadd, 1) := by decide +kernel
theorem dX0_takeBack_7 : decode cX0_takeBack 7 = .ok (.iconst 1, 1) := by decide +kernel
theorem dX0_takeBack_8 : decode cX0_takeBack 8 = .ok (.isub, 1) := by decide +kernel
theorem dX0_takeBack_9 : decode cX0_takeBack 9 = .ok (.bipush 14, 2) := by decide +kernel
theorem dX0_takeBack_11 : decode cX0_takeBack 11 = .ok (.irem, 1) := by decide +kernel
theorem dX0_takeBack_12 : decode cX0_takeBack 12 = .ok (.istore_n 2, 1) := by decide +kernel
theorem dX0_takeBack_13 : decode cX0_takeBack 13 = .ok (.aload_n 0, 1) := by decide +kernel
theorem dX0_takeBack_14 : decode cX0_takeBack 14 = .ok (.iload_n 2, 1) := by decide +kernel
theorem dX0_takeBack_15 : decode cX0_takeBack 15 = .ok (.invokevirtual 25, 3) := by decide +kernel
theorem dX0_takeBack_18 : decode cX0_takeBack 18 = .ok (.astore_n 3, 1) := by decide +kernel
theorem dX0_takeBack_19 : decode cX0_takeBack 19 = .ok (.aload_n 3, 1) := by decide +kernel
theorem dX0_takeBack_20 : decode cX0_takeBack 20 = .ok (.ifnull 10, 3) := by decide +kernel
theorem dX0_takeBack_23 : decode cX0_takeBack 23 = .ok (.aload_n 0, 1) := by decide +kernel
theorem dX0_takeBack_24 : decode cX0_takeBack 24 = .ok (.getfield 22, 3) := by decide +kernel
theorem dX0_takeBack_27 : decode cX0_takeBack 27 = .ok (.ifCond .gt 4, 3) := by decide +kernel
theorem dX0_takeBack_30 : decode cX0_takeBack 30 = .ok (.return_, 1) := by decide +kernel
theorem dX0_takeBack_31 : decode cX0_takeBack 31 = .ok (.aload_n 1, 1) := by decide +kernel
theorem dX0_takeBack_32 : decode cX0_takeBack 32 = .ok (.aload_n 3, 1) := by decide +kernel
theorem dX0_takeBack_33 : decode cX0_takeBack 33 = .ok (.invokevirtual 29, 3) := by decide +kernel
theorem dX0_takeBack_36 : decode cX0_takeBack 36 = .ok (.aload_n 0, 1) := by decide +kernel
theorem dX0_takeBack_37 : decode cX0_takeBack 37 = .ok (.iload_n 2, 1) := by decide +kernel
theorem dX0_takeBack_38 : decode cX0_takeBack 38 = .ok (.putfield 18, 3) := by decide +kernel
theorem dX0_takeBack_41 : decode cX0_takeBack 41 = .ok (.aload_n 0, 1) := by decide +kernel
theorem dX0_takeBack_42 : decode cX0_takeBack 42 = .ok (.dup, 1) := by decide +kernel
theorem dX0_takeBack_43 : decode cX0_takeBack 43 = .ok (.getfield 22, 3) := by decide +kernel
theorem dX0_takeBack_46 : decode cX0_takeBack 46 = .ok (.iconst 1, 1) := by decide +kernel
theorem dX0_takeBack_47 : decode cX0_takeBack 47 = .ok (.isub, 1) := by decide +kernel
theorem dX0_takeBack_48 : decode cX0_takeBack 48 = .ok (.putfield 22, 3) := by decide +kernel
theorem dX0_takeBack_51 : decode cX0_takeBack 51 = .ok (.return_, 1) := by decide +kernel
theorem dX0_placeAt_0 : decode cX0_placeAt 0 = .ok (.iload_n 1, 1) := by decide +kernel
theorem dX0_placeAt_1 : decode cX0_placeAt 1 = .ok (.ifCond .lt 21, 3) := by decide +kernel
theorem dX0_placeAt_4 : decode cX0_placeAt 4 = .ok (.iload_n 1, 1) := by decide +kernel
theorem dX0_placeAt_5 : decode cX0_placeAt 5 = .ok (.aload_n 0, 1) := by decide +kernel
theorem dX0_placeAt_6 : decode cX0_placeAt 6 = .ok (.getfield 11, 3) := by decide +kernel
theorem dX0_placeAt_9 : decode cX0_placeAt 9 = .ok (.arraylength, 1) := by decide +kernel
theorem dX0_placeAt_10 : decode cX0_placeAt 10 = .ok (.if_icmp .ge 12, 3) := by decide +kernel
theorem dX0_placeAt_13 : decode cX0_placeAt 13 = .ok (.aload_n 0, 1) := by decide +kernel
theorem dX0_placeAt_14 : decode cX0_placeAt 14 = .ok (.getfield 11, 3) := by decide +kernel
theorem dX0_placeAt_17 : decode cX0_placeAt 17 = .ok (.iload_n 1, 1) := by decide +kernel
theorem dX0_placeAt_18 : decode cX0_placeAt 18 = .ok (.aaload, 1) := by decide +kernel
theorem dX0_placeAt_19 : decode cX0_placeAt 19 = .ok (.goto 4, 3) := by decide +kernel
theorem dX0_placeAt_22 : decode cX0_placeAt 22 = .ok (.aconst_null, 1) := by decide +kernel
theorem dX0_placeAt_23 : decode cX0_placeAt 23 = .ok (.areturn, 1) := by decide +kernel
theorem dX1_init_0 : decode cX1_init 0 = .ok (.aload_n 0, 1) := by decide +kernel
theorem dX1_init_1 : decode cX1_init 1 = .ok (.invokespecial 3, 3) := by decide +kernel
theorem dX1_init_4 : decode cX1_init 4 = .ok (.return_, 1) := by decide +kernel
theorem dX1_set_0 : decode cX1_set 0 = .ok (.aload_n 0, 1) := by decide +kernel
theorem dX1_set_1 : decode cX1_set 1 = .ok (.iload_n 1, 1) := by decide +kernel
theorem dX1_set_2 : decode cX1_set 2 = .ok (.putfield 9, 3) := by decide +kernel
theorem dX1_set_5 : decode cX1_set 5 = .ok (.aload_n 0, 1) := by decide +kernel
theorem dX1_set_6 : decode cX1_set 6 = .ok (.iload_n 2, 1) := by decide +kernel
theorem dX1_set_7 : decode cX1_set 7 = .ok (.putfield 15, 3) := by decide +kernel
theorem dX1_set_10 : decode cX1_set 10 = .ok (.aload_n 0, 1) := by decide +kernel
theorem dX1_set_11 : decode cX1_set 11 = .ok (.iload_n 3, 1) := by decide +kernel
theorem dX1_set_12 : decode cX1_set 12 = .ok (.putfield 18, 3) := by decide +kernel
theorem dX1_set_15 : decode cX1_set 15 = .ok (.aload_n 0, 1) := by decide +kernel
theorem dX1_set_16 : decode cX1_set 16 = .ok (.iload 4, 2) := by decide +kernel
theorem dX1_set_18 : decode cX1_set 18 = .ok (.putfield 21, 3) := by decide +kernel
theorem dX1_set_21 : decode cX1_set 21 = .ok (.aload_n 0, 1) := by decide +kernel
theorem dX1_set_22 : decode cX1_set 22 = .ok (.bipush 10, 2) := by decide +kernel
theorem dX1_set_24 : decode cX1_set 24 = .ok (.iload_n 1, 1) := by decide +kernel
theorem dX1_set_25 : decode cX1_set 25 = .ok (.invokestatic 24, 3) := by decide +kernel
theorem dX1_set_28 : decode cX1_set 28 = .ok (.imul, 1) := by decide +kernel
theorem dX1_set_29 : decode cX1_set 29 = .ok (.putfield 30, 3) := by decide +kernel
theorem dX1_set_32 : decode cX1_set 32 = .ok (.aload_n 0, 1) := by decide +kernel
theorem dX1_set_33 : decode cX1_set 33 = .ok (.bipush 10, 2) := by decide +kernel
theorem dX1_set_35 : decode cX1_set 35 = .ok (.iload_n 2, 1) := by decide +kernel
theorem dX1_set_36 : decode cX1_set 36 = .ok (.invokestatic 24, 3) := by decide +kernel
theorem dX1_set_39 : decode cX1_set 39 = .ok (.imul, 1) := by decide +kernel
theorem dX1_set_40 : decode cX1_set 40 = .ok (.putfield 33, 3) := by decide +kernel
theorem dX1_set_43 : decode cX1_set 43 = .ok (.return_, 1) := by decide +kernel
theorem dX1_outcome_0 : decode cX1_outcome 0 = .ok (.aload_n 0, 1) := by decide +kernel
theorem dX1_outcome_1 : decode cX1_outcome 1 = .ok (.getfield 18, 3) := by decide +kernel
theorem dX1_outcome_4 : decode cX1_outcome 4 = .ok (.aload_n 0, 1) := by decide +kernel
theorem dX1_outcome_5 : decode cX1_outcome 5 = .ok (.getfield 30, 3) := by decide +kernel
theorem dX1_outcome_8 : decode cX1_outcome 8 = .ok (.iload_n 2, 1) := by decide +kernel
theorem dX1_outcome_9 : decode cX1_outcome 9 = .ok (.iadd, 1) := by decide +kernel
theorem dX1_outcome_10 : decode cX1_outcome 10 = .ok (.iload_n 1, 1) := by decide +kernel
theorem dX1_outcome_11 : decode cX1_outcome 11 = .ok (.iconst 1, 1) := by decide +kernel
theorem dX1_outcome_12 : decode cX1_outcome 12 = .ok (.if_icmp .ne 7, 3) := by decide +kernel
theorem dX1_outcome_15 : decode cX1_outcome 15 = .ok (.iconst 1, 1) := by decide +kernel
theorem dX1_outcome_16 : decode cX1_outcome 16 = .ok (.goto 4, 3) := by decide +kernel
theorem dX1_outcome_19 : decode cX1_outcome 19 = .ok (.iconst 0, 1) := by decide +kernel
theorem dX1_outcome_20 : decode cX1_outcome 20 = .ok (.iadd, 1) := by decide +kernel
theorem dX1_outcome_21 : decode cX1_outcome 21 = .ok (.imul, 1) := by decide +kernel
theorem dX1_outcome_22 : decode cX1_outcome 22 = .ok (.istore 4, 2) := by decide +kernel
theorem dX1_outcome_24 : decode cX1_outcome 24 = .ok (.aload_n 0, 1) := by decide +kernel
theorem dX1_outcome_25 : decode cX1_outcome 25 = .ok (.getfield 21, 3) := by decide +kernel
theorem dX1_outcome_28 : decode cX1_outcome 28 = .ok (.aload_n 0, 1) := by decide +kernel
theorem dX1_outcome_29 : decode cX1_outcome 29 = .ok (.getfield 33, 3) := by decide +kernel
theorem dX1_outcome_32 : decode cX1_outcome 32 = .ok (.iload_n 3, 1) := by decide +kernel
theorem dX1_outcome_33 : decode cX1_outcome 33 = .ok (.iadd, 1) := by decide +kernel
theorem dX1_outcome_34 : decode cX1_outcome 34 = .ok (.iload_n 1, 1) := by decide +kernel
theorem dX1_outcome_35 : decode cX1_outcome 35 = .ok (.iconst 2, 1) := by decide +kernel
theorem dX1_outcome_36 : decode cX1_outcome 36 = .ok (.if_icmp .ne 7, 3) := by decide +kernel
theorem dX1_outcome_39 : decode cX1_outcome 39 = .ok (.iconst 1, 1) := by decide +kernel
theorem dX1_outcome_40 : decode cX1_outcome 40 = .ok (.goto 4, 3) := by decide +kernel
theorem dX1_outcome_43 : decode cX1_outcome 43 = .ok (.iconst 0, 1) := by decide +kernel
theorem dX1_outcome_44 : decode cX1_outcome 44 = .ok (.iadd, 1) := by decide +kernel
theorem dX1_outcome_45 : decode cX1_outcome 45 = .ok (.imul, 1) := by decide +kernel
theorem dX1_outcome_46 : decode cX1_outcome 46 = .ok (.istore 5, 2) := by decide +kernel
theorem dX1_outcome_48 : decode cX1_outcome 48 = .ok (.iload 4, 2) := by decide +kernel
theorem dX1_outcome_50 : decode cX1_outcome 50 = .ok (.iload 5, 2) := by decide +kernel
theorem dX1_outcome_52 : decode cX1_outcome 52 = .ok (.if_icmp .le 7, 3) := by decide +kernel
theorem dX1_outcome_55 : decode cX1_outcome 55 = .ok (.iconst 1, 1) := by decide +kernel
theorem dX1_outcome_56 : decode cX1_outcome 56 = .ok (.goto 15, 3) := by decide +kernel
theorem dX1_outcome_59 : decode cX1_outcome 59 = .ok (.iload 4, 2) := by decide +kernel
theorem dX1_outcome_61 : decode cX1_outcome 61 = .ok (.iload 5, 2) := by decide +kernel
theorem dX1_outcome_63 : decode cX1_outcome 63 = .ok (.if_icmp .ge 7, 3) := by decide +kernel
theorem dX1_outcome_66 : decode cX1_outcome 66 = .ok (.iconst 2, 1) := by decide +kernel
theorem dX1_outcome_67 : decode cX1_outcome 67 = .ok (.goto 4, 3) := by decide +kernel
theorem dX1_outcome_70 : decode cX1_outcome 70 = .ok (.iconst 0, 1) := by decide +kernel
theorem dX1_outcome_71 : decode cX1_outcome 71 = .ok (.ireturn, 1) := by decide +kernel
theorem dX1_outcomeInCase_0 : decode cX1_outcomeInCase 0 = .ok (.iload_n 1, 1) := by decide +kernel
theorem dX1_outcomeInCase_1 : decode cX1_outcomeInCase 1 = .ok (.iconst 3, 1) := by decide +kernel
theorem dX1_outcomeInCase_2 : decode cX1_outcomeInCase 2 = .ok (.idiv, 1) := by decide +kernel
theorem dX1_outcomeInCase_3 : decode cX1_outcomeInCase 3 = .ok (.istore_n 2, 1) := by decide +kernel
theorem dX1_outcomeInCase_4 : decode cX1_outcomeInCase 4 = .ok (.iload_n 2, 1) := by decide +kernel
theorem dX1_outcomeInCase_5 : decode cX1_outcomeInCase 5 = .ok (.iconst 2, 1) := by decide +kernel
theorem dX1_outcomeInCase_6 : decode cX1_outcomeInCase 6 = .ok (.irem, 1) := by decide +kernel
theorem dX1_outcomeInCase_7 : decode cX1_outcomeInCase 7 = .ok (.ifCond .ne 7, 3) := by decide +kernel
theorem dX1_outcomeInCase_10 : decode cX1_outcomeInCase 10 = .ok (.iconst (-1), 1) := by decide +kernel
theorem dX1_outcomeInCase_11 : decode cX1_outcomeInCase 11 = .ok (.goto 4, 3) := by decide +kernel
theorem dX1_outcomeInCase_14 : decode cX1_outcomeInCase 14 = .ok (.iconst 1, 1) := by decide +kernel
theorem dX1_outcomeInCase_15 : decode cX1_outcomeInCase 15 = .ok (.istore_n 3, 1) := by decide +kernel
theorem dX1_outcomeInCase_16 : decode cX1_outcomeInCase 16 = .ok (.iconst 1, 1) := by decide +kernel
theorem dX1_outcomeInCase_17 : decode cX1_outcomeInCase 17 = .ok (.iload_n 2, 1) := by decide +kernel
theorem dX1_outcomeInCase_18 : decode cX1_outcomeInCase 18 = .ok (.iconst 2, 1) := by decide +kernel
theorem dX1_outcomeInCase_19 : decode cX1_outcomeInCase 19 = .ok (.idiv, 1) := by decide +kernel
theorem dX1_outcomeInCase_20 : decode cX1_outcomeInCase 20 = .ok (.ishl, 1) := by decide +kernel
theorem dX1_outcomeInCase_21 : decode cX1_outcomeInCase 21 = .ok (.istore 4, 2) := by decide +kernel
theorem dX1_outcomeInCase_23 : decode cX1_outcomeInCase 23 = .ok (.aload_n 0, 1) := by decide +kernel
theorem dX1_outcomeInCase_24 : decode cX1_outcomeInCase 24 = .ok (.iload_n 1, 1) := by decide +kernel
theorem dX1_outcomeInCase_25 : decode cX1_outcomeInCase 25 = .ok (.iconst 3, 1) := by decide +kernel
theorem dX1_outcomeInCase_26 : decode cX1_outcomeInCase 26 = .ok (.irem, 1) := by decide +kernel
theorem dX1_outcomeInCase_27 : decode cX1_outcomeInCase 27 = .ok (.aload_n 0, 1) := by decide +kernel
theorem dX1_outcomeInCase_28 : decode cX1_outcomeInCase 28 = .ok (.getfield 9, 3) := by decide +kernel
theorem dX1_outcomeInCase_31 : decode cX1_outcomeInCase 31 = .ok (.iload 4, 2) := by decide +kernel
theorem dX1_outcomeInCase_33 : decode cX1_outcomeInCase 33 = .ok (.iand, 1) := by decide +kernel
theorem dX1_outcomeInCase_34 : decode cX1_outcomeInCase 34 = .ok (.ifCond .eq 7, 3) := by decide +kernel
theorem dX1_outcomeInCase_37 : decode cX1_outcomeInCase 37 = .ok (.iload_n 3, 1) := by decide +kernel
theorem dX1_outcomeInCase_38 : decode cX1_outcomeInCase 38 = .ok (.goto 4, 3) := by decide +kernel
theorem dX1_outcomeInCase_41 : decode cX1_outcomeInCase 41 = .ok (.iconst 0, 1) := by decide +kernel
theorem dX1_outcomeInCase_42 : decode cX1_outcomeInCase 42 = .ok (.aload_n 0, 1) := by decide +kernel
theorem dX1_outcomeInCase_43 : decode cX1_outcomeInCase 43 = .ok (.getfield 15, 3) := by decide +kernel
theorem dX1_outcomeInCase_46 : decode cX1_outcomeInCase 46 = .ok (.iload 4, 2) := by decide +kernel
theorem dX1_outcomeInCase_48 : decode cX1_outcomeInCase 48 = .ok (.iand, 1) := by decide +kernel
theorem dX1_outcomeInCase_49 : decode cX1_outcomeInCase 49 = .ok (.ifCond .eq 7, 3) := by decide +kernel
theorem dX1_outcomeInCase_52 : decode cX1_outcomeInCase 52 = .ok (.iload_n 3, 1) := by decide +kernel
theorem dX1_outcomeInCase_53 : decode cX1_outcomeInCase 53 = .ok (.goto 4, 3) := by decide +kernel
theorem dX1_outcomeInCase_56 : decode cX1_outcomeInCase 56 = .ok (.iconst 0, 1) := by decide +kernel
theorem dX1_outcomeInCase_57 : decode cX1_outcomeInCase 57 = .ok (.invokevirtual 36, 3) := by decide +kernel
theorem dX1_outcomeInCase_60 : decode cX1_outcomeInCase 60 = .ok (.ireturn, 1) := by decide +kernel
theorem dX2_init_0 : decode cX2_init 0 = .ok (.aload_n 0, 1) := by decide +kernel
theorem dX2_init_1 : decode cX2_init 1 = .ok (.invokespecial 1, 3) := by decide +kernel
theorem dX2_init_4 : decode cX2_init 4 = .ok (.aload_n 0, 1) := by decide +kernel
theorem dX2_init_5 : decode cX2_init 5 = .ok (.new 7, 3) := by decide +kernel
theorem dX2_init_8 : decode cX2_init 8 = .ok (.dup, 1) := by decide +kernel
theorem dX2_init_9 : decode cX2_init 9 = .ok (.invokespecial 9, 3) := by decide +kernel
theorem dX2_init_12 : decode cX2_init 12 = .ok (.putfield 10, 3) := by decide +kernel
theorem dX2_init_15 : decode cX2_init 15 = .ok (.return_, 1) := by decide +kernel
theorem dX3_init_0 : decode cX3_init 0 = .ok (.aload_n 0, 1) := by decide +kernel
theorem dX3_init_1 : decode cX3_init 1 = .ok (.invokespecial 3, 3) := by decide +kernel
theorem dX3_init_4 : decode cX3_init 4 = .ok (.aload_n 0, 1) := by decide +kernel
theorem dX3_init_5 : decode cX3_init 5 = .ok (.bipush 6, 2) := by decide +kernel
theorem dX3_init_7 : decode cX3_init 7 = .ok (.newarray .int, 2) := by decide +kernel
theorem dX3_init_9 : decode cX3_init 9 = .ok (.putfield 9, 3) := by decide +kernel
theorem dX3_init_12 : decode cX3_init 12 = .ok (.return_, 1) := by decide +kernel
theorem dX3_copyFrom_0 : decode cX3_copyFrom 0 = .ok (.iconst 0, 1) := by decide +kernel
theorem dX3_copyFrom_1 : decode cX3_copyFrom 1 = .ok (.istore_n 2, 1) := by decide +kernel
theorem dX3_copyFrom_2 : decode cX3_copyFrom 2 = .ok (.iload_n 2, 1) := by decide +kernel
theorem dX3_copyFrom_3 : decode cX3_copyFrom 3 = .ok (.aload_n 0, 1) := by decide +kernel
theorem dX3_copyFrom_4 : decode cX3_copyFrom 4 = .ok (.getfield 9, 3) := by decide +kernel
theorem dX3_copyFrom_7 : decode cX3_copyFrom 7 = .ok (.arraylength, 1) := by decide +kernel
theorem dX3_copyFrom_8 : decode cX3_copyFrom 8 = .ok (.if_icmp .ge 30, 3) := by decide +kernel
theorem dX3_copyFrom_11 : decode cX3_copyFrom 11 = .ok (.iload_n 2, 1) := by decide +kernel
theorem dX3_copyFrom_12 : decode cX3_copyFrom 12 = .ok (.aload_n 1, 1) := by decide +kernel
theorem dX3_copyFrom_13 : decode cX3_copyFrom 13 = .ok (.getfield 9, 3) := by decide +kernel
theorem dX3_copyFrom_16 : decode cX3_copyFrom 16 = .ok (.arraylength, 1) := by decide +kernel
theorem dX3_copyFrom_17 : decode cX3_copyFrom 17 = .ok (.if_icmp .ge 21, 3) := by decide +kernel
theorem dX3_copyFrom_20 : decode cX3_copyFrom 20 = .ok (.aload_n 0, 1) := by decide +kernel
theorem dX3_copyFrom_21 : decode cX3_copyFrom 21 = .ok (.getfield 9, 3) := by decide +kernel
theorem dX3_copyFrom_24 : decode cX3_copyFrom 24 = .ok (.iload_n 2, 1) := by decide +kernel
theorem dX3_copyFrom_25 : decode cX3_copyFrom 25 = .ok (.aload_n 1, 1) := by decide +kernel
theorem dX3_copyFrom_26 : decode cX3_copyFrom 26 = .ok (.getfield 9, 3) := by decide +kernel
theorem dX3_copyFrom_29 : decode cX3_copyFrom 29 = .ok (.iload_n 2, 1) := by decide +kernel
theorem dX3_copyFrom_30 : decode cX3_copyFrom 30 = .ok (.iaload, 1) := by decide +kernel
theorem dX3_copyFrom_31 : decode cX3_copyFrom 31 = .ok (.iastore, 1) := by decide +kernel
theorem dX3_copyFrom_32 : decode cX3_copyFrom 32 = .ok (.iinc 2 1, 3) := by decide +kernel
theorem dX3_copyFrom_35 : decode cX3_copyFrom 35 = .ok (.goto (-33), 3) := by decide +kernel
theorem dX3_copyFrom_38 : decode cX3_copyFrom 38 = .ok (.return_, 1) := by decide +kernel
theorem dX3_suspectAll_0 : decode cX3_suspectAll 0 = .ok (.iconst 1, 1) := by decide +kernel
theorem dX3_suspectAll_1 : decode cX3_suspectAll 1 = .ok (.iload_n 1, 1) := by decide +kernel
theorem dX3_suspectAll_2 : decode cX3_suspectAll 2 = .ok (.ishl, 1) := by decide +kernel
theorem dX3_suspectAll_3 : decode cX3_suspectAll 3 = .ok (.iconst 1, 1) := by decide +kernel
theorem dX3_suspectAll_4 : decode cX3_suspectAll 4 = .ok (.isub, 1) := by decide +kernel
theorem dX3_suspectAll_5 : decode cX3_suspectAll 5 = .ok (.istore_n 2, 1) := by decide +kernel
theorem dX3_suspectAll_6 : decode cX3_suspectAll 6 = .ok (.iconst 0, 1) := by decide +kernel
theorem dX3_suspectAll_7 : decode cX3_suspectAll 7 = .ok (.istore_n 3, 1) := by decide +kernel
theorem dX3_suspectAll_8 : decode cX3_suspectAll 8 = .ok (.iload_n 3, 1) := by decide +kernel
theorem dX3_suspectAll_9 : decode cX3_suspectAll 9 = .ok (.aload_n 0, 1) := by decide +kernel
theorem dX3_suspectAll_10 : decode cX3_suspectAll 10 = .ok (.getfield 9, 3) := by decide +kernel
theorem dX3_suspectAll_13 : decode cX3_suspectAll 13 = .ok (.arraylength, 1) := by decide +kernel
theorem dX3_suspectAll_14 : decode cX3_suspectAll 14 = .ok (.if_icmp .ge 30, 3) := by decide +kernel
theorem dX3_suspectAll_17 : decode cX3_suspectAll 17 = .ok (.aload_n 0, 1) := by decide +kernel
theorem dX3_suspectAll_18 : decode cX3_suspectAll 18 = .ok (.getfield 9, 3) := by decide +kernel
theorem dX3_suspectAll_21 : decode cX3_suspectAll 21 = .ok (.iload_n 3, 1) := by decide +kernel
theorem dX3_suspectAll_22 : decode cX3_suspectAll 22 = .ok (.iload_n 3, 1) := by decide +kernel
theorem dX3_suspectAll_23 : decode cX3_suspectAll 23 = .ok (.iconst 2, 1) := by decide +kernel
theorem dX3_suspectAll_24 : decode cX3_suspectAll 24 = .ok (.irem, 1) := by decide +kernel
theorem dX3_suspectAll_25 : decode cX3_suspectAll 25 = .ok (.ifCond .ne 11, 3) := by decide +kernel
theorem dX3_suspectAll_28 : decode cX3_suspectAll 28 = .ok (.iload_n 2, 1) := by decide +kernel
theorem dX3_suspectAll_29 : decode cX3_suspectAll 29 = .ok (.iconst 1, 1) := by decide +kernel
theorem dX3_suspectAll_30 : decode cX3_suspectAll 30 = .ok (.iload_n 1, 1) := by decide +kernel
theorem dX3_suspectAll_31 : decode cX3_suspectAll 31 = .ok (.ishl, 1) := by decide +kernel
theorem dX3_suspectAll_32 : decode cX3_suspectAll 32 = .ok (.ior, 1) := by decide +kernel
theorem dX3_suspectAll_33 : decode cX3_suspectAll 33 = .ok (.goto 4, 3) := by decide +kernel
theorem dX3_suspectAll_36 : decode cX3_suspectAll 36 = .ok (.iload_n 2, 1) := by decide +kernel
theorem dX3_suspectAll_37 : decode cX3_suspectAll 37 = .ok (.iastore, 1) := by decide +kernel
theorem dX3_suspectAll_38 : decode cX3_suspectAll 38 = .ok (.iinc 3 1, 3) := by decide +kernel
theorem dX3_suspectAll_41 : decode cX3_suspectAll 41 = .ok (.goto (-33), 3) := by decide +kernel
theorem dX3_suspectAll_44 : decode cX3_suspectAll 44 = .ok (.return_, 1) := by decide +kernel
theorem dX3_has_0 : decode cX3_has 0 = .ok (.iload_n 1, 1) := by decide +kernel
theorem dX3_has_1 : decode cX3_has 1 = .ok (.iconst 3, 1) := by decide +kernel
theorem dX3_has_2 : decode cX3_has 2 = .ok (.idiv, 1) := by decide +kernel
theorem dX3_has_3 : decode cX3_has 3 = .ok (.istore_n 2, 1) := by decide +kernel
theorem dX3_has_4 : decode cX3_has 4 = .ok (.iconst 2, 1) := by decide +kernel
theorem dX3_has_5 : decode cX3_has 5 = .ok (.iload_n 1, 1) := by decide +kernel
theorem dX3_has_6 : decode cX3_has 6 = .ok (.iconst 3, 1) := by decide +kernel
theorem dX3_has_7 : decode cX3_has 7 = .ok (.irem, 1) := by decide +kernel
theorem dX3_has_8 : decode cX3_has 8 = .ok (.imul, 1) := by decide +kernel
theorem dX3_has_9 : decode cX3_has 9 = .ok (.iload_n 2, 1) := by decide +kernel
theorem dX3_has_10 : decode cX3_has 10 = .ok (.iconst 2, 1) := by decide +kernel
theorem dX3_has_11 : decode cX3_has 11 = .ok (.irem, 1) := by decide +kernel
theorem dX3_has_12 : decode cX3_has 12 = .ok (.iadd, 1) := by decide +kernel
theorem dX3_has_13 : decode cX3_has 13 = .ok (.istore_n 3, 1) := by decide +kernel
theorem dX3_has_14 : decode cX3_has 14 = .ok (.iload_n 3, 1) := by decide +kernel
theorem dX3_has_15 : decode cX3_has 15 = .ok (.ifCond .lt 32, 3) := by decide +kernel
theorem dX3_has_18 : decode cX3_has 18 = .ok (.iload_n 3, 1) := by decide +kernel
theorem dX3_has_19 : decode cX3_has 19 = .ok (.aload_n 0, 1) := by decide +kernel
theorem dX3_has_20 : decode cX3_has 20 = .ok (.getfield 9, 3) := by decide +kernel
theorem dX3_has_23 : decode cX3_has 23 = .ok (.arraylength, 1) := by decide +kernel
theorem dX3_has_24 : decode cX3_has 24 = .ok (.if_icmp .ge 23, 3) := by decide +kernel
theorem dX3_has_27 : decode cX3_has 27 = .ok (.aload_n 0, 1) := by decide +kernel
theorem dX3_has_28 : decode cX3_has 28 = .ok (.getfield 9, 3) := by decide +kernel
theorem dX3_has_31 : decode cX3_has 31 = .ok (.iload_n 3, 1) := by decide +kernel
theorem dX3_has_32 : decode cX3_has 32 = .ok (.iaload, 1) := by decide +kernel
theorem dX3_has_33 : decode cX3_has 33 = .ok (.iload_n 2, 1) := by decide +kernel
theorem dX3_has_34 : decode cX3_has 34 = .ok (.iconst 2, 1) := by decide +kernel
theorem dX3_has_35 : decode cX3_has 35 = .ok (.idiv, 1) := by decide +kernel
theorem dX3_has_36 : decode cX3_has 36 = .ok (.ishr, 1) := by decide +kernel
theorem dX3_has_37 : decode cX3_has 37 = .ok (.iconst 1, 1) := by decide +kernel
theorem dX3_has_38 : decode cX3_has 38 = .ok (.iand, 1) := by decide +kernel
theorem dX3_has_39 : decode cX3_has 39 = .ok (.iconst 1, 1) := by decide +kernel
theorem dX3_has_40 : decode cX3_has 40 = .ok (.if_icmp .ne 7, 3) := by decide +kernel
theorem dX3_has_43 : decode cX3_has 43 = .ok (.iconst 1, 1) := by decide +kernel
theorem dX3_has_44 : decode cX3_has 44 = .ok (.goto 4, 3) := by decide +kernel
theorem dX3_has_47 : decode cX3_has 47 = .ok (.iconst 0, 1) := by decide +kernel
theorem dX3_has_48 : decode cX3_has 48 = .ok (.ireturn, 1) := by decide +kernel
theorem dX3_count_0 : decode cX3_count 0 = .ok (.iconst 0, 1) := by decide +kernel
theorem dX3_count_1 : decode cX3_count 1 = .ok (.istore_n 1, 1) := by decide +kernel
theorem dX3_count_2 : decode cX3_count 2 = .ok (.iconst 0, 1) := by decide +kernel
theorem dX3_count_3 : decode cX3_count 3 = .ok (.istore_n 2, 1) := by decide +kernel
theorem dX3_count_4 : decode cX3_count 4 = .ok (.iload_n 2, 1) := by decide +kernel
theorem dX3_count_5 : decode cX3_count 5 = .ok (.aload_n 0, 1) := by decide +kernel
theorem dX3_count_6 : decode cX3_count 6 = .ok (.getfield 9, 3) := by decide +kernel
theorem dX3_count_9 : decode cX3_count 9 = .ok (.arraylength, 1) := by decide +kernel
theorem dX3_count_10 : decode cX3_count 10 = .ok (.if_icmp .ge 21, 3) := by decide +kernel
theorem dX3_count_13 : decode cX3_count 13 = .ok (.iload_n 1, 1) := by decide +kernel
theorem dX3_count_14 : decode cX3_count 14 = .ok (.aload_n 0, 1) := by decide +kernel
theorem dX3_count_15 : decode cX3_count 15 = .ok (.getfield 9, 3) := by decide +kernel
theorem dX3_count_18 : decode cX3_count 18 = .ok (.iload_n 2, 1) := by decide +kernel
theorem dX3_count_19 : decode cX3_count 19 = .ok (.iaload, 1) := by decide +kernel
theorem dX3_count_20 : decode cX3_count 20 = .ok (.invokestatic 15, 3) := by decide +kernel
theorem dX3_count_23 : decode cX3_count 23 = .ok (.iadd, 1) := by decide +kernel
theorem dX3_count_24 : decode cX3_count 24 = .ok (.istore_n 1, 1) := by decide +kernel
theorem dX3_count_25 : decode cX3_count 25 = .ok (.iinc 2 1, 3) := by decide +kernel
theorem dX3_count_28 : decode cX3_count 28 = .ok (.goto (-24), 3) := by decide +kernel
theorem dX3_count_31 : decode cX3_count 31 = .ok (.iload_n 1, 1) := by decide +kernel
theorem dX3_count_32 : decode cX3_count 32 = .ok (.ireturn, 1) := by decide +kernel
theorem dX3_coinMayBe_0 : decode cX3_coinMayBe 0 = .ok (.iconst 0, 1) := by decide +kernel
theorem dX3_coinMayBe_1 : decode cX3_coinMayBe 1 = .ok (.istore_n 2, 1) := by decide +kernel
theorem dX3_coinMayBe_2 : decode cX3_coinMayBe 2 = .ok (.iconst 0, 1) := by decide +kernel
theorem dX3_coinMayBe_3 : decode cX3_coinMayBe 3 = .ok (.istore_n 3, 1) := by decide +kernel
theorem dX3_coinMayBe_4 : decode cX3_coinMayBe 4 = .ok (.iload_n 3, 1) := by decide +kernel
theorem dX3_coinMayBe_5 : decode cX3_coinMayBe 5 = .ok (.aload_n 0, 1) := by decide +kernel
theorem dX3_coinMayBe_6 : decode cX3_coinMayBe 6 = .ok (.getfield 9, 3) := by decide +kernel
theorem dX3_coinMayBe_9 : decode cX3_coinMayBe 9 = .ok (.arraylength, 1) := by decide +kernel
theorem dX3_coinMayBe_10 : decode cX3_coinMayBe 10 = .ok (.if_icmp .ge 55, 3) := by decide +kernel
theorem dX3_coinMayBe_13 : decode cX3_coinMayBe 13 = .ok (.aload_n 0, 1) := by decide +kernel
theorem dX3_coinMayBe_14 : decode cX3_coinMayBe 14 = .ok (.getfield 9, 3) := by decide +kernel
theorem dX3_coinMayBe_17 : decode cX3_coinMayBe 17 = .ok (.iload_n 3, 1) := by decide +kernel
theorem dX3_coinMayBe_18 : decode cX3_coinMayBe 18 = .ok (.iaload, 1) := by decide +kernel
theorem dX3_coinMayBe_19 : decode cX3_coinMayBe 19 = .ok (.iconst 1, 1) := by decide +kernel
theorem dX3_coinMayBe_20 : decode cX3_coinMayBe 20 = .ok (.iload_n 1, 1) := by decide +kernel
theorem dX3_coinMayBe_21 : decode cX3_coinMayBe 21 = .ok (.ishl, 1) := by decide +kernel
theorem dX3_coinMayBe_22 : decode cX3_coinMayBe 22 = .ok (.iand, 1) := by decide +kernel
theorem dX3_coinMayBe_23 : decode cX3_coinMayBe 23 = .ok (.ifCond .eq 17, 3) := by decide +kernel
theorem dX3_coinMayBe_26 : decode cX3_coinMayBe 26 = .ok (.iload_n 2, 1) := by decide +kernel
theorem dX3_coinMayBe_27 : decode cX3_coinMayBe 27 = .ok (.iload_n 3, 1) := by decide +kernel
theorem dX3_coinMayBe_28 : decode cX3_coinMayBe 28 = .ok (.iconst 2, 1) := by decide +kernel
theorem dX3_coinMayBe_29 : decode cX3_coinMayBe 29 = .ok (.irem, 1) := by decide +kernel
theorem dX3_coinMayBe_30 : decode cX3_coinMayBe 30 = .ok (.ifCond .ne 7, 3) := by decide +kernel
theorem dX3_coinMayBe_33 : decode cX3_coinMayBe 33 = .ok (.iconst 1, 1) := by decide +kernel
theorem dX3_coinMayBe_34 : decode cX3_coinMayBe 34 = .ok (.goto 4, 3) := by decide +kernel
theorem dX3_coinMayBe_37 : decode cX3_coinMayBe 37 = .ok (.iconst 2, 1) := by decide +kernel
theorem dX3_coinMayBe_38 : decode cX3_coinMayBe 38 = .ok (.ior, 1) := by decide +kernel
theorem dX3_coinMayBe_39 : decode cX3_coinMayBe 39 = .ok (.istore_n 2, 1) := by decide +kernel
theorem dX3_coinMayBe_40 : decode cX3_coinMayBe 40 = .ok (.aload_n 0, 1) := by decide +kernel
theorem dX3_coinMayBe_41 : decode cX3_coinMayBe 41 = .ok (.getfield 9, 3) := by decide +kernel
theorem dX3_coinMayBe_44 : decode cX3_coinMayBe 44 = .ok (.iload_n 3, 1) := by decide +kernel
theorem dX3_coinMayBe_45 : decode cX3_coinMayBe 45 = .ok (.iaload, 1) := by decide +kernel
theorem dX3_coinMayBe_46 : decode cX3_coinMayBe 46 = .ok (.iconst 1, 1) := by decide +kernel
theorem dX3_coinMayBe_47 : decode cX3_coinMayBe 47 = .ok (.iload_n 1, 1) := by decide +kernel
theorem dX3_coinMayBe_48 : decode cX3_coinMayBe 48 = .ok (.ishl, 1) := by decide +kernel
theorem dX3_coinMayBe_49 : decode cX3_coinMayBe 49 = .ok (.iconst (-1), 1) := by decide +kernel
theorem dX3_coinMayBe_50 : decode cX3_coinMayBe 50 = .ok (.ixor, 1) := by decide +kernel
theorem dX3_coinMayBe_51 : decode cX3_coinMayBe 51 = .ok (.iand, 1) := by decide +kernel
theorem dX3_coinMayBe_52 : decode cX3_coinMayBe 52 = .ok (.ifCond .eq 7, 3) := by decide +kernel
theorem dX3_coinMayBe_55 : decode cX3_coinMayBe 55 = .ok (.iload_n 2, 1) := by decide +kernel
theorem dX3_coinMayBe_56 : decode cX3_coinMayBe 56 = .ok (.iconst 4, 1) := by decide +kernel
theorem dX3_coinMayBe_57 : decode cX3_coinMayBe 57 = .ok (.ior, 1) := by decide +kernel
theorem dX3_coinMayBe_58 : decode cX3_coinMayBe 58 = .ok (.istore_n 2, 1) := by decide +kernel
theorem dX3_coinMayBe_59 : decode cX3_coinMayBe 59 = .ok (.iinc 3 1, 3) := by decide +kernel
theorem dX3_coinMayBe_62 : decode cX3_coinMayBe 62 = .ok (.goto (-58), 3) := by decide +kernel
theorem dX3_coinMayBe_65 : decode cX3_coinMayBe 65 = .ok (.iload_n 2, 1) := by decide +kernel
theorem dX3_coinMayBe_66 : decode cX3_coinMayBe 66 = .ok (.ireturn, 1) := by decide +kernel
theorem dX3_pansMayBe_0 : decode cX3_pansMayBe 0 = .ok (.iconst 0, 1) := by decide +kernel
theorem dX3_pansMayBe_1 : decode cX3_pansMayBe 1 = .ok (.istore_n 1, 1) := by decide +kernel
theorem dX3_pansMayBe_2 : decode cX3_pansMayBe 2 = .ok (.iconst 0, 1) := by decide +kernel
theorem dX3_pansMayBe_3 : decode cX3_pansMayBe 3 = .ok (.istore_n 2, 1) := by decide +kernel
theorem dX3_pansMayBe_4 : decode cX3_pansMayBe 4 = .ok (.iload_n 2, 1) := by decide +kernel
theorem dX3_pansMayBe_5 : decode cX3_pansMayBe 5 = .ok (.aload_n 0, 1) := by decide +kernel
theorem dX3_pansMayBe_6 : decode cX3_pansMayBe 6 = .ok (.getfield 9, 3) := by decide +kernel
theorem dX3_pansMayBe_9 : decode cX3_pansMayBe 9 = .ok (.arraylength, 1) := by decide +kernel
theorem dX3_pansMayBe_10 : decode cX3_pansMayBe 10 = .ok (.if_icmp .ge 26, 3) := by decide +kernel
theorem dX3_pansMayBe_13 : decode cX3_pansMayBe 13 = .ok (.aload_n 0, 1) := by decide +kernel
theorem dX3_pansMayBe_14 : decode cX3_pansMayBe 14 = .ok (.getfield 9, 3) := by decide +kernel
theorem dX3_pansMayBe_17 : decode cX3_pansMayBe 17 = .ok (.iload_n 2, 1) := by decide +kernel
theorem dX3_pansMayBe_18 : decode cX3_pansMayBe 18 = .ok (.iaload, 1) := by decide +kernel
theorem dX3_pansMayBe_19 : decode cX3_pansMayBe 19 = .ok (.ifCond .eq 11, 3) := by decide +kernel
theorem dX3_pansMayBe_22 : decode cX3_pansMayBe 22 = .ok (.iload_n 1, 1) := by decide +kernel
theorem dX3_pansMayBe_23 : decode cX3_pansMayBe 23 = .ok (.iconst 1, 1) := by decide +kernel
theorem dX3_pansMayBe_24 : decode cX3_pansMayBe 24 = .ok (.iload_n 2, 1) := by decide +kernel
theorem dX3_pansMayBe_25 : decode cX3_pansMayBe 25 = .ok (.iconst 2, 1) := by decide +kernel
theorem dX3_pansMayBe_26 : decode cX3_pansMayBe 26 = .ok (.idiv, 1) := by decide +kernel
theorem dX3_pansMayBe_27 : decode cX3_pansMayBe 27 = .ok (.ishl, 1) := by decide +kernel
theorem dX3_pansMayBe_28 : decode cX3_pansMayBe 28 = .ok (.ior, 1) := by decide +kernel
theorem dX3_pansMayBe_29 : decode cX3_pansMayBe 29 = .ok (.istore_n 1, 1) := by decide +kernel
theorem dX3_pansMayBe_30 : decode cX3_pansMayBe 30 = .ok (.iinc 2 1, 3) := by decide +kernel
theorem dX3_pansMayBe_33 : decode cX3_pansMayBe 33 = .ok (.goto (-29), 3) := by decide +kernel
theorem dX3_pansMayBe_36 : decode cX3_pansMayBe 36 = .ok (.iload_n 1, 1) := by decide +kernel
theorem dX3_pansMayBe_37 : decode cX3_pansMayBe 37 = .ok (.ireturn, 1) := by decide +kernel
theorem dX3_keep_0 : decode cX3_keep 0 = .ok (.iconst 0, 1) := by decide +kernel
theorem dX3_keep_1 : decode cX3_keep 1 = .ok (.istore_n 3, 1) := by decide +kernel
theorem dX3_keep_2 : decode cX3_keep 2 = .ok (.iload_n 3, 1) := by decide +kernel
theorem dX3_keep_3 : decode cX3_keep 3 = .ok (.aload_n 0, 1) := by decide +kernel
theorem dX3_keep_4 : decode cX3_keep 4 = .ok (.getfield 9, 3) := by decide +kernel
theorem dX3_keep_7 : decode cX3_keep 7 = .ok (.arraylength, 1) := by decide +kernel
theorem dX3_keep_8 : decode cX3_keep 8 = .ok (.if_icmp .ge 111, 3) := by decide +kernel
theorem dX3_keep_11 : decode cX3_keep 11 = .ok (.iload_n 3, 1) := by decide +kernel
theorem dX3_keep_12 : decode cX3_keep 12 = .ok (.iconst 2, 1) := by decide +kernel
theorem dX3_keep_13 : decode cX3_keep 13 = .ok (.irem, 1) := by decide +kernel
theorem dX3_keep_14 : decode cX3_keep 14 = .ok (.ifCond .ne 7, 3) := by decide +kernel
theorem dX3_keep_17 : decode cX3_keep 17 = .ok (.iconst (-1), 1) := by decide +kernel
theorem dX3_keep_18 : decode cX3_keep 18 = .ok (.goto 4, 3) := by decide +kernel
theorem dX3_keep_21 : decode cX3_keep 21 = .ok (.iconst 1, 1) := by decide +kernel
theorem dX3_keep_22 : decode cX3_keep 22 = .ok (.istore 4, 2) := by decide +kernel
theorem dX3_keep_24 : decode cX3_keep 24 = .ok (.iconst 0, 1) := by decide +kernel
theorem dX3_keep_25 : decode cX3_keep 25 = .ok (.istore 5, 2) := by decide +kernel
theorem dX3_keep_27 : decode cX3_keep 27 = .ok (.aload_n 1, 1) := by decide +kernel
theorem dX3_keep_28 : decode cX3_keep 28 = .ok (.iload_n 3, 1) := by decide +kernel
theorem dX3_keep_29 : decode cX3_keep 29 = .ok (.iconst 2, 1) := by decide +kernel
theorem dX3_keep_30 : decode cX3_keep 30 = .ok (.idiv, 1) := by decide +kernel
theorem dX3_keep_31 : decode cX3_keep 31 = .ok (.iload 4, 2) := by decide +kernel
theorem dX3_keep_33 : decode cX3_keep 33 = .ok (.iconst 0, 1) := by decide +kernel
theorem dX3_keep_34 : decode cX3_keep 34 = .ok (.invokevirtual 21, 3) := by decide +kernel
theorem dX3_keep_37 : decode cX3_keep 37 = .ok (.iload_n 2, 1) := by decide +kernel
theorem dX3_keep_38 : decode cX3_keep 38 = .ok (.if_icmp .ne 12, 3) := by decide +kernel
theorem dX3_keep_41 : decode cX3_keep 41 = .ok (.iload 5, 2) := by decide +kernel
theorem dX3_keep_43 : decode cX3_keep 43 = .ok (.aload_n 1, 1) := by decide +kernel
theorem dX3_keep_44 : decode cX3_keep 44 = .ok (.getfield 27, 3) := by decide +kernel
theorem dX3_keep_47 : decode cX3_keep 47 = .ok (.ior, 1) := by decide +kernel
theorem dX3_keep_48 : decode cX3_keep 48 = .ok (.istore 5, 2) := by decide +kernel
theorem dX3_keep_50 : decode cX3_keep 50 = .ok (.aload_n 1, 1) := by decide +kernel
theorem dX3_keep_51 : decode cX3_keep 51 = .ok (.iload_n 3, 1) := by decide +kernel
theorem dX3_keep_52 : decode cX3_keep 52 = .ok (.iconst 2, 1) := by decide +kernel
theorem dX3_keep_53 : decode cX3_keep 53 = .ok (.idiv, 1) := by decide +kernel
theorem dX3_keep_54 : decode cX3_keep 54 = .ok (.iconst 0, 1) := by decide +kernel
theorem dX3_keep_55 : decode cX3_keep 55 = .ok (.iload 4, 2) := by decide +kernel
theorem dX3_keep_57 : decode cX3_keep 57 = .ok (.invokevirtual 21, 3) := by decide +kernel
theorem dX3_keep_60 : decode cX3_keep 60 = .ok (.iload_n 2, 1) := by decide +kernel
theorem dX3_keep_61 : decode cX3_keep 61 = .ok (.if_icmp .ne 12, 3) := by decide +kernel
theorem dX3_keep_64 : decode cX3_keep 64 = .ok (.iload 5, 2) := by decide +kernel
theorem dX3_keep_66 : decode cX3_keep 66 = .ok (.aload_n 1, 1) := by decide +kernel
theorem dX3_keep_67 : decode cX3_keep 67 = .ok (.getfield 31, 3) := by decide +kernel
theorem dX3_keep_70 : decode cX3_keep 70 = .ok (.ior, 1) := by decide +kernel
theorem dX3_keep_71 : decode cX3_keep 71 = .ok (.istore 5, 2) := by decide +kernel
theorem dX3_keep_73 : decode cX3_keep 73 = .ok (.aload_n 1, 1) := by decide +kernel
theorem dX3_keep_74 : decode cX3_keep 74 = .ok (.iload_n 3, 1) := by decide +kernel
theorem dX3_keep_75 : decode cX3_keep 75 = .ok (.iconst 2, 1) := by decide +kernel
theorem dX3_keep_76 : decode cX3_keep 76 = .ok (.idiv, 1) := by decide +kernel
theorem dX3_keep_77 : decode cX3_keep 77 = .ok (.iconst 0, 1) := by decide +kernel
theorem dX3_keep_78 : decode cX3_keep 78 = .ok (.iconst 0, 1) := by decide +kernel
theorem dX3_keep_79 : decode cX3_keep 79 = .ok (.invokevirtual 21, 3) := by decide +kernel
theorem dX3_keep_82 : decode cX3_keep 82 = .ok (.iload_n 2, 1) := by decide +kernel
theorem dX3_keep_83 : decode cX3_keep 83 = .ok (.if_icmp .ne 19, 3) := by decide +kernel
theorem dX3_keep_86 : decode cX3_keep 86 = .ok (.iload 5, 2) := by decide +kernel
theorem dX3_keep_88 : decode cX3_keep 88 = .ok (.aload_n 1, 1) := by decide +kernel
theorem dX3_keep_89 : decode cX3_keep 89 = .ok (.getfield 27, 3) := by decide +kernel
theorem dX3_keep_92 : decode cX3_keep 92 = .ok (.aload_n 1, 1) := by decide +kernel
theorem dX3_keep_93 : decode cX3_keep 93 = .ok (.getfield 31, 3) := by decide +kernel
theorem dX3_keep_96 : decode cX3_keep 96 = .ok (.ior, 1) := by decide +kernel
theorem dX3_keep_97 : decode cX3_keep 97 = .ok (.iconst (-1), 1) := by decide +kernel
theorem dX3_keep_98 : decode cX3_keep 98 = .ok (.ixor, 1) := by decide +kernel
theorem dX3_keep_99 : decode cX3_keep 99 = .ok (.ior, 1) := by decide +kernel
theorem dX3_keep_100 : decode cX3_keep 100 = .ok (.istore 5, 2) := by decide +kernel
theorem dX3_keep_102 : decode cX3_keep 102 = .ok (.aload_n 0, 1) := by decide +kernel
theorem dX3_keep_103 : decode cX3_keep 103 = .ok (.getfield 9, 3) := by decide +kernel
theorem dX3_keep_106 : decode cX3_keep 106 = .ok (.iload_n 3, 1) := by decide +kernel
theorem dX3_keep_107 : decode cX3_keep 107 = .ok (.dup2, 1) := by decide +kernel
theorem dX3_keep_108 : decode cX3_keep 108 = .ok (.iaload, 1) := by decide +kernel
theorem dX3_keep_109 : decode cX3_keep 109 = .ok (.iload 5, 2) := by decide +kernel
theorem dX3_keep_111 : decode cX3_keep 111 = .ok (.iand, 1) := by decide +kernel
theorem dX3_keep_112 : decode cX3_keep 112 = .ok (.iastore, 1) := by decide +kernel
theorem dX3_keep_113 : decode cX3_keep 113 = .ok (.iinc 3 1, 3) := by decide +kernel
theorem dX3_keep_116 : decode cX3_keep 116 = .ok (.goto (-114), 3) := by decide +kernel
theorem dX3_keep_119 : decode cX3_keep 119 = .ok (.return_, 1) := by decide +kernel
theorem dX3_sort_0 : decode cX3_sort 0 = .ok (.aload_n 2, 1) := by decide +kernel
theorem dX3_sort_1 : decode cX3_sort 1 = .ok (.invokevirtual 34, 3) := by decide +kernel
theorem dX3_sort_4 : decode cX3_sort 4 = .ok (.iconst 0, 1) := by decide +kernel
theorem dX3_sort_5 : decode cX3_sort 5 = .ok (.istore_n 3, 1) := by decide +kernel
theorem dX3_sort_6 : decode cX3_sort 6 = .ok (.iload_n 3, 1) := by decide +kernel
theorem dX3_sort_7 : decode cX3_sort 7 = .ok (.aload_n 0, 1) := by decide +kernel
theorem dX3_sort_8 : decode cX3_sort 8 = .ok (.getfield 9, 3) := by decide +kernel
theorem dX3_sort_11 : decode cX3_sort 11 = .ok (.arraylength, 1) := by decide +kernel
theorem dX3_sort_12 : decode cX3_sort 12 = .ok (.if_icmp .ge 124, 3) := by decide +kernel
theorem dX3_sort_15 : decode cX3_sort 15 = .ok (.iload_n 3, 1) := by decide +kernel
theorem dX3_sort_16 : decode cX3_sort 16 = .ok (.iconst 2, 1) := by decide +kernel
theorem dX3_sort_17 : decode cX3_sort 17 = .ok (.irem, 1) := by decide +kernel
theorem dX3_sort_18 : decode cX3_sort 18 = .ok (.ifCond .ne 7, 3) := by decide +kernel
theorem dX3_sort_21 : decode cX3_sort 21 = .ok (.iconst (-1), 1) := by decide +kernel
theorem dX3_sort_22 : decode cX3_sort 22 = .ok (.goto 4, 3) := by decide +kernel
theorem dX3_sort_25 : decode cX3_sort 25 = .ok (.iconst 1, 1) := by decide +kernel
theorem dX3_sort_26 : decode cX3_sort 26 = .ok (.istore 4, 2) := by decide +kernel
theorem dX3_sort_28 : decode cX3_sort 28 = .ok (.aload_n 0, 1) := by decide +kernel
theorem dX3_sort_29 : decode cX3_sort 29 = .ok (.getfield 9, 3) := by decide +kernel
theorem dX3_sort_32 : decode cX3_sort 32 = .ok (.iload_n 3, 1) := by decide +kernel
theorem dX3_sort_33 : decode cX3_sort 33 = .ok (.iaload, 1) := by decide +kernel
theorem dX3_sort_34 : decode cX3_sort 34 = .ok (.aload_n 1, 1) := by decide +kernel
theorem dX3_sort_35 : decode cX3_sort 35 = .ok (.getfield 27, 3) := by decide +kernel
theorem dX3_sort_38 : decode cX3_sort 38 = .ok (.iand, 1) := by decide +kernel
theorem dX3_sort_39 : decode cX3_sort 39 = .ok (.istore 5, 2) := by decide +kernel
theorem dX3_sort_41 : decode cX3_sort 41 = .ok (.aload_n 0, 1) := by decide +kernel
theorem dX3_sort_42 : decode cX3_sort 42 = .ok (.getfield 9, 3) := by decide +kernel
theorem dX3_sort_45 : decode cX3_sort 45 = .ok (.iload_n 3, 1) := by decide +kernel
theorem dX3_sort_46 : decode cX3_sort 46 = .ok (.iaload, 1) := by decide +kernel
theorem dX3_sort_47 : decode cX3_sort 47 = .ok (.aload_n 1, 1) := by decide +kernel
theorem dX3_sort_48 : decode cX3_sort 48 = .ok (.getfield 31, 3) := by decide +kernel
theorem dX3_sort_51 : decode cX3_sort 51 = .ok (.iand, 1) := by decide +kernel
theorem dX3_sort_52 : decode cX3_sort 52 = .ok (.istore 6, 2) := by decide +kernel
theorem dX3_sort_54 : decode cX3_sort 54 = .ok (.aload_n 0, 1) := by decide +kernel
theorem dX3_sort_55 : decode cX3_sort 55 = .ok (.getfield 9, 3) := by decide +kernel
theorem dX3_sort_58 : decode cX3_sort 58 = .ok (.iload_n 3, 1) := by decide +kernel
theorem dX3_sort_59 : decode cX3_sort 59 = .ok (.iaload, 1) := by decide +kernel
theorem dX3_sort_60 : decode cX3_sort 60 = .ok (.aload_n 1, 1) := by decide +kernel
theorem dX3_sort_61 : decode cX3_sort 61 = .ok (.getfield 27, 3) := by decide +kernel
theorem dX3_sort_64 : decode cX3_sort 64 = .ok (.aload_n 1, 1) := by decide +kernel
theorem dX3_sort_65 : decode cX3_sort 65 = .ok (.getfield 31, 3) := by decide +kernel
theorem dX3_sort_68 : decode cX3_sort 68 = .ok (.ior, 1) := by decide +kernel
theorem dX3_sort_69 : decode cX3_sort 69 = .ok (.iconst (-1), 1) := by decide +kernel
theorem dX3_sort_70 : decode cX3_sort 70 = .ok (.ixor, 1) := by decide +kernel
theorem dX3_sort_71 : decode cX3_sort 71 = .ok (.iand, 1) := by decide +kernel
theorem dX3_sort_72 : decode cX3_sort 72 = .ok (.istore 7, 2) := by decide +kernel
theorem dX3_sort_74 : decode cX3_sort 74 = .ok (.aload_n 2, 1) := by decide +kernel
theorem dX3_sort_75 : decode cX3_sort 75 = .ok (.aload_n 1, 1) := by decide +kernel
theorem dX3_sort_76 : decode cX3_sort 76 = .ok (.iload_n 3, 1) := by decide +kernel
theorem dX3_sort_77 : decode cX3_sort 77 = .ok (.iconst 2, 1) := by decide +kernel
theorem dX3_sort_78 : decode cX3_sort 78 = .ok (.idiv, 1) := by decide +kernel
theorem dX3_sort_79 : decode cX3_sort 79 = .ok (.iload 4, 2) := by decide +kernel
theorem dX3_sort_81 : decode cX3_sort 81 = .ok (.iconst 0, 1) := by decide +kernel
theorem dX3_sort_82 : decode cX3_sort 82 = .ok (.invokevirtual 21, 3) := by decide +kernel
theorem dX3_sort_85 : decode cX3_sort 85 = .ok (.iload 5, 2) := by decide +kernel
theorem dX3_sort_87 : decode cX3_sort 87 = .ok (.invokestatic 15, 3) := by decide +kernel
theorem dX3_sort_90 : decode cX3_sort 90 = .ok (.invokevirtual 39, 3) := by decide +kernel
theorem dX3_sort_93 : decode cX3_sort 93 = .ok (.aload_n 2, 1) := by decide +kernel
theorem dX3_sort_94 : decode cX3_sort 94 = .ok (.aload_n 1, 1) := by decide +kernel
theorem dX3_sort_95 : decode cX3_sort 95 = .ok (.iload_n 3, 1) := by decide +kernel
theorem dX3_sort_96 : decode cX3_sort 96 = .ok (.iconst 2, 1) := by decide +kernel
theorem dX3_sort_97 : decode cX3_sort 97 = .ok (.idiv, 1) := by decide +kernel
theorem dX3_sort_98 : decode cX3_sort 98 = .ok (.iconst 0, 1) := by decide +kernel
theorem dX3_sort_99 : decode cX3_sort 99 = .ok (.iload 4, 2) := by decide +kernel
theorem dX3_sort_101 : decode cX3_sort 101 = .ok (.invokevirtual 21, 3) := by decide +kernel
theorem dX3_sort_104 : decode cX3_sort 104 = .ok (.iload 6, 2) := by decide +kernel
theorem dX3_sort_106 : decode cX3_sort 106 = .ok (.invokestatic 15, 3) := by decide +kernel
theorem dX3_sort_109 : decode cX3_sort 109 = .ok (.invokevirtual 39, 3) := by decide +kernel
theorem dX3_sort_112 : decode cX3_sort 112 = .ok (.aload_n 2, 1) := by decide +kernel
theorem dX3_sort_113 : decode cX3_sort 113 = .ok (.aload_n 1, 1) := by decide +kernel
theorem dX3_sort_114 : decode cX3_sort 114 = .ok (.iload_n 3, 1) := by decide +kernel
theorem dX3_sort_115 : decode cX3_sort 115 = .ok (.iconst 2, 1) := by decide +kernel
theorem dX3_sort_116 : decode cX3_sort 116 = .ok (.idiv, 1) := by decide +kernel
theorem dX3_sort_117 : decode cX3_sort 117 = .ok (.iconst 0, 1) := by decide +kernel
theorem dX3_sort_118 : decode cX3_sort 118 = .ok (.iconst 0, 1) := by decide +kernel
theorem dX3_sort_119 : decode cX3_sort 119 = .ok (.invokevirtual 21, 3) := by decide +kernel
theorem dX3_sort_122 : decode cX3_sort 122 = .ok (.iload 7, 2) := by decide +kernel
theorem dX3_sort_124 : decode cX3_sort 124 = .ok (.invokestatic 15, 3) := by decide +kernel
theorem dX3_sort_127 : decode cX3_sort 127 = .ok (.invokevirtual 39, 3) := by decide +kernel
theorem dX3_sort_130 : decode cX3_sort 130 = .ok (.iinc 3 1, 3) := by decide +kernel
theorem dX3_sort_133 : decode cX3_sort 133 = .ok (.goto (-127), 3) := by decide +kernel
theorem dX3_sort_136 : decode cX3_sort 136 = .ok (.return_, 1) := by decide +kernel
theorem dX4_init_0 : decode cX4_init 0 = .ok (.aload_n 0, 1) := by decide +kernel
theorem dX4_init_1 : decode cX4_init 1 = .ok (.invokespecial 3, 3) := by decide +kernel
theorem dX4_init_4 : decode cX4_init 4 = .ok (.aload_n 0, 1) := by decide +kernel
theorem dX4_init_5 : decode cX4_init 5 = .ok (.bipush 120, 2) := by decide +kernel
theorem dX4_init_7 : decode cX4_init 7 = .ok (.newarray .int, 2) := by decide +kernel
theorem dX4_init_9 : decode cX4_init 9 = .ok (.putfield 9, 3) := by decide +kernel
theorem dX4_init_12 : decode cX4_init 12 = .ok (.aload_n 0, 1) := by decide +kernel
theorem dX4_init_13 : decode cX4_init 13 = .ok (.new 15, 3) := by decide +kernel
theorem dX4_init_16 : decode cX4_init 16 = .ok (.dup, 1) := by decide +kernel
theorem dX4_init_17 : decode cX4_init 17 = .ok (.invokespecial 17, 3) := by decide +kernel
theorem dX4_init_20 : decode cX4_init 20 = .ok (.putfield 18, 3) := by decide +kernel
theorem dX4_init_23 : decode cX4_init 23 = .ok (.aload_n 0, 1) := by decide +kernel
theorem dX4_init_24 : decode cX4_init 24 = .ok (.new 22, 3) := by decide +kernel
theorem dX4_init_27 : decode cX4_init 27 = .ok (.dup, 1) := by decide +kernel
theorem dX4_init_28 : decode cX4_init 28 = .ok (.invokespecial 24, 3) := by decide +kernel
theorem dX4_init_31 : decode cX4_init 31 = .ok (.putfield 25, 3) := by decide +kernel
theorem dX4_init_34 : decode cX4_init 34 = .ok (.return_, 1) := by decide +kernel
theorem dX4_reset_0 : decode cX4_reset 0 = .ok (.aload_n 0, 1) := by decide +kernel
theorem dX4_reset_1 : decode cX4_reset 1 = .ok (.bipush 9, 2) := by decide +kernel
theorem dX4_reset_3 : decode cX4_reset 3 = .ok (.iconst 0, 1) := by decide +kernel
theorem dX4_reset_4 : decode cX4_reset 4 = .ok (.invokevirtual 29, 3) := by decide +kernel
theorem dX4_reset_7 : decode cX4_reset 7 = .ok (.aload_n 0, 1) := by decide +kernel
theorem dX4_reset_8 : decode cX4_reset 8 = .ok (.bipush 10, 2) := by decide +kernel
theorem dX4_reset_10 : decode cX4_reset 10 = .ok (.putfield 33, 3) := by decide +kernel
theorem dX4_reset_13 : decode cX4_reset 13 = .ok (.aload_n 0, 1) := by decide +kernel
theorem dX4_reset_14 : decode cX4_reset 14 = .ok (.bipush 10, 2) := by decide +kernel
theorem dX4_reset_16 : decode cX4_reset 16 = .ok (.putfield 37, 3) := by decide +kernel
theorem dX4_reset_19 : decode cX4_reset 19 = .ok (.aload_n 0, 1) := by decide +kernel
theorem dX4_reset_20 : decode cX4_reset 20 = .ok (.iconst 0, 1) := by decide +kernel
theorem dX4_reset_21 : decode cX4_reset 21 = .ok (.putfield 40, 3) := by decide +kernel
theorem dX4_reset_24 : decode cX4_reset 24 = .ok (.aload_n 0, 1) := by decide +kernel
theorem dX4_reset_25 : decode cX4_reset 25 = .ok (.iconst 0, 1) := by decide +kernel
theorem dX4_reset_26 : decode cX4_reset 26 = .ok (.putfield 43, 3) := by decide +kernel
theorem dX4_reset_29 : decode cX4_reset 29 = .ok (.return_, 1) := by decide +kernel
theorem dX4_copyFrom_0 : decode cX4_copyFrom 0 = .ok (.aload_n 0, 1) := by decide +kernel
theorem dX4_copyFrom_1 : decode cX4_copyFrom 1 = .ok (.aload_n 1, 1) := by decide +kernel
theorem dX4_copyFrom_2 : decode cX4_copyFrom 2 = .ok (.getfield 46, 3) := by decide +kernel
theorem dX4_copyFrom_5 : decode cX4_copyFrom 5 = .ok (.putfield 46, 3) := by decide +kernel
theorem dX4_copyFrom_8 : decode cX4_copyFrom 8 = .ok (.aload_n 0, 1) := by decide +kernel
theorem dX4_copyFrom_9 : decode cX4_copyFrom 9 = .ok (.aload_n 1, 1) := by decide +kernel
theorem dX4_copyFrom_10 : decode cX4_copyFrom 10 = .ok (.getfield 49, 3) := by decide +kernel
theorem dX4_copyFrom_13 : decode cX4_copyFrom 13 = .ok (.putfield 49, 3) := by decide +kernel
theorem dX4_copyFrom_16 : decode cX4_copyFrom 16 = .ok (.aload_n 0, 1) := by decide +kernel
theorem dX4_copyFrom_17 : decode cX4_copyFrom 17 = .ok (.aload_n 1, 1) := by decide +kernel
theorem dX4_copyFrom_18 : decode cX4_copyFrom 18 = .ok (.getfield 33, 3) := by decide +kernel
theorem dX4_copyFrom_21 : decode cX4_copyFrom 21 = .ok (.putfield 33, 3) := by decide +kernel
theorem dX4_copyFrom_24 : decode cX4_copyFrom 24 = .ok (.aload_n 0, 1) := by decide +kernel
theorem dX4_copyFrom_25 : decode cX4_copyFrom 25 = .ok (.aload_n 1, 1) := by decide +kernel
theorem dX4_copyFrom_26 : decode cX4_copyFrom 26 = .ok (.getfield 37, 3) := by decide +kernel
theorem dX4_copyFrom_29 : decode cX4_copyFrom 29 = .ok (.putfield 37, 3) := by decide +kernel
theorem dX4_copyFrom_32 : decode cX4_copyFrom 32 = .ok (.aload_n 0, 1) := by decide +kernel
theorem dX4_copyFrom_33 : decode cX4_copyFrom 33 = .ok (.aload_n 1, 1) := by decide +kernel
theorem dX4_copyFrom_34 : decode cX4_copyFrom 34 = .ok (.getfield 40, 3) := by decide +kernel
theorem dX4_copyFrom_37 : decode cX4_copyFrom 37 = .ok (.putfield 40, 3) := by decide +kernel
theorem dX4_copyFrom_40 : decode cX4_copyFrom 40 = .ok (.aload_n 0, 1) := by decide +kernel
theorem dX4_copyFrom_41 : decode cX4_copyFrom 41 = .ok (.aload_n 1, 1) := by decide +kernel
theorem dX4_copyFrom_42 : decode cX4_copyFrom 42 = .ok (.getfield 43, 3) := by decide +kernel
theorem dX4_copyFrom_45 : decode cX4_copyFrom 45 = .ok (.putfield 43, 3) := by decide +kernel
theorem dX4_copyFrom_48 : decode cX4_copyFrom 48 = .ok (.aload_n 0, 1) := by decide +kernel
theorem dX4_copyFrom_49 : decode cX4_copyFrom 49 = .ok (.aload_n 1, 1) := by decide +kernel
theorem dX4_copyFrom_50 : decode cX4_copyFrom 50 = .ok (.getfield 52, 3) := by decide +kernel
theorem dX4_copyFrom_53 : decode cX4_copyFrom 53 = .ok (.putfield 52, 3) := by decide +kernel
theorem dX4_copyFrom_56 : decode cX4_copyFrom 56 = .ok (.iconst 0, 1) := by decide +kernel
theorem dX4_copyFrom_57 : decode cX4_copyFrom 57 = .ok (.istore_n 2, 1) := by decide +kernel
theorem dX4_copyFrom_58 : decode cX4_copyFrom 58 = .ok (.iload_n 2, 1) := by decide +kernel
theorem dX4_copyFrom_59 : decode cX4_copyFrom 59 = .ok (.aload_n 0, 1) := by decide +kernel
theorem dX4_copyFrom_60 : decode cX4_copyFrom 60 = .ok (.getfield 9, 3) := by decide +kernel
theorem dX4_copyFrom_63 : decode cX4_copyFrom 63 = .ok (.arraylength, 1) := by decide +kernel
theorem dX4_copyFrom_64 : decode cX4_copyFrom 64 = .ok (.if_icmp .ge 30, 3) := by decide +kernel
theorem dX4_copyFrom_67 : decode cX4_copyFrom 67 = .ok (.iload_n 2, 1) := by decide +kernel
theorem dX4_copyFrom_68 : decode cX4_copyFrom 68 = .ok (.aload_n 1, 1) := by decide +kernel
theorem dX4_copyFrom_69 : decode cX4_copyFrom 69 = .ok (.getfield 9, 3) := by decide +kernel
theorem dX4_copyFrom_72 : decode cX4_copyFrom 72 = .ok (.arraylength, 1) := by decide +kernel
theorem dX4_copyFrom_73 : decode cX4_copyFrom 73 = .ok (.if_icmp .ge 21, 3) := by decide +kernel
theorem dX4_copyFrom_76 : decode cX4_copyFrom 76 = .ok (.aload_n 0, 1) := by decide +kernel
theorem dX4_copyFrom_77 : decode cX4_copyFrom 77 = .ok (.getfield 9, 3) := by decide +kernel
theorem dX4_copyFrom_80 : decode cX4_copyFrom 80 = .ok (.iload_n 2, 1) := by decide +kernel
theorem dX4_copyFrom_81 : decode cX4_copyFrom 81 = .ok (.aload_n 1, 1) := by decide +kernel
theorem dX4_copyFrom_82 : decode cX4_copyFrom 82 = .ok (.getfield 9, 3) := by decide +kernel
theorem dX4_copyFrom_85 : decode cX4_copyFrom 85 = .ok (.iload_n 2, 1) := by decide +kernel
theorem dX4_copyFrom_86 : decode cX4_copyFrom 86 = .ok (.iaload, 1) := by decide +kernel
theorem dX4_copyFrom_87 : decode cX4_copyFrom 87 = .ok (.iastore, 1) := by decide +kernel
theorem dX4_copyFrom_88 : decode cX4_copyFrom 88 = .ok (.iinc 2 1, 3) := by decide +kernel
theorem dX4_copyFrom_91 : decode cX4_copyFrom 91 = .ok (.goto (-33), 3) := by decide +kernel
theorem dX4_copyFrom_94 : decode cX4_copyFrom 94 = .ok (.aload_n 0, 1) := by decide +kernel
theorem dX4_copyFrom_95 : decode cX4_copyFrom 95 = .ok (.getfield 18, 3) := by decide +kernel
theorem dX4_copyFrom_98 : decode cX4_copyFrom 98 = .ok (.aload_n 1, 1) := by decide +kernel
theorem dX4_copyFrom_99 : decode cX4_copyFrom 99 = .ok (.getfield 18, 3) := by decide +kernel
theorem dX4_copyFrom_102 : decode cX4_copyFrom 102 = .ok (.invokevirtual 55, 3) := by decide +kernel
theorem dX4_copyFrom_105 : decode cX4_copyFrom 105 = .ok (.return_, 1) := by decide +kernel
theorem dX4_layOut_0 : decode cX4_layOut 0 = .ok (.aload_n 0, 1) := by decide +kernel
theorem dX4_layOut_1 : decode cX4_layOut 1 = .ok (.iload_n 1, 1) := by decide +kernel
theorem dX4_layOut_2 : decode cX4_layOut 2 = .ok (.putfield 46, 3) := by decide +kernel
theorem dX4_layOut_5 : decode cX4_layOut 5 = .ok (.aload_n 0, 1) := by decide +kernel
theorem dX4_layOut_6 : decode cX4_layOut 6 = .ok (.iload_n 2, 1) := by decide +kernel
theorem dX4_layOut_7 : decode cX4_layOut 7 = .ok (.putfield 49, 3) := by decide +kernel
theorem dX4_layOut_10 : decode cX4_layOut 10 = .ok (.aload_n 0, 1) := by decide +kernel
theorem dX4_layOut_11 : decode cX4_layOut 11 = .ok (.iconst 0, 1) := by decide +kernel
theorem dX4_layOut_12 : decode cX4_layOut 12 = .ok (.putfield 52, 3) := by decide +kernel
theorem dX4_layOut_15 : decode cX4_layOut 15 = .ok (.aload_n 0, 1) := by decide +kernel
theorem dX4_layOut_16 : decode cX4_layOut 16 = .ok (.getfield 18, 3) := by decide +kernel
theorem dX4_layOut_19 : decode cX4_layOut 19 = .ok (.iload_n 1, 1) := by decide +kernel
theorem dX4_layOut_20 : decode cX4_layOut 20 = .ok (.invokevirtual 59, 3) := by decide +kernel
theorem dX4_layOut_23 : decode cX4_layOut 23 = .ok (.return_, 1) := by decide +kernel
theorem dX4_allCases_0 : decode cX4_allCases 0 = .ok (.aload_n 0, 1) := by decide +kernel
theorem dX4_allCases_1 : decode cX4_allCases 1 = .ok (.getfield 46, 3) := by decide +kernel
theorem dX4_allCases_4 : decode cX4_allCases 4 = .ok (.invokestatic 63, 3) := by decide +kernel
theorem dX4_allCases_7 : decode cX4_allCases 7 = .ok (.ireturn, 1) := by decide +kernel
theorem dX4_hasCoin_0 : decode cX4_hasCoin 0 = .ok (.iload_n 1, 1) := by decide +kernel
theorem dX4_hasCoin_1 : decode cX4_hasCoin 1 = .ok (.ifCond .lt 15, 3) := by decide +kernel
theorem dX4_hasCoin_4 : decode cX4_hasCoin 4 = .ok (.iload_n 1, 1) := by decide +kernel
theorem dX4_hasCoin_5 : decode cX4_hasCoin 5 = .ok (.aload_n 0, 1) := by decide +kernel
theorem dX4_hasCoin_6 : decode cX4_hasCoin 6 = .ok (.getfield 46, 3) := by decide +kernel
theorem dX4_hasCoin_9 : decode cX4_hasCoin 9 = .ok (.if_icmp .ge 7, 3) := by decide +kernel
theorem dX4_hasCoin_12 : decode cX4_hasCoin 12 = .ok (.iconst 1, 1) := by decide +kernel
theorem dX4_hasCoin_13 : decode cX4_hasCoin 13 = .ok (.goto 4, 3) := by decide +kernel
theorem dX4_hasCoin_16 : decode cX4_hasCoin 16 = .ok (.iconst 0, 1) := by decide +kernel
theorem dX4_hasCoin_17 : decode cX4_hasCoin 17 = .ok (.ireturn, 1) := by decide +kernel
theorem dX4_isFull_0 : decode cX4_isFull 0 = .ok (.aload_n 0, 1) := by decide +kernel
theorem dX4_isFull_1 : decode cX4_isFull 1 = .ok (.getfield 52, 3) := by decide +kernel
theorem dX4_isFull_4 : decode cX4_isFull 4 = .ok (.bipush 20, 2) := by decide +kernel
theorem dX4_isFull_6 : decode cX4_isFull 6 = .ok (.if_icmp .lt 7, 3) := by decide +kernel
theorem dX4_isFull_9 : decode cX4_isFull 9 = .ok (.iconst 1, 1) := by decide +kernel
theorem dX4_isFull_10 : decode cX4_isFull 10 = .ok (.goto 4, 3) := by decide +kernel
theorem dX4_isFull_13 : decode cX4_isFull 13 = .ok (.iconst 0, 1) := by decide +kernel
theorem dX4_isFull_14 : decode cX4_isFull 14 = .ok (.ireturn, 1) := by decide +kernel
theorem dX4_canWeigh_0 : decode cX4_canWeigh 0 = .ok (.iconst 1, 1) := by decide +kernel
theorem dX4_canWeigh_1 : decode cX4_canWeigh 1 = .ok (.aload_n 0, 1) := by decide +kernel
theorem dX4_canWeigh_2 : decode cX4_canWeigh 2 = .ok (.getfield 46, 3) := by decide +kernel
theorem dX4_canWeigh_5 : decode cX4_canWeigh 5 = .ok (.ishl, 1) := by decide +kernel
theorem dX4_canWeigh_6 : decode cX4_canWeigh 6 = .ok (.iconst 1, 1) := by decide +kernel
theorem dX4_canWeigh_7 : decode cX4_canWeigh 7 = .ok (.isub, 1) := by decide +kernel
theorem dX4_canWeigh_8 : decode cX4_canWeigh 8 = .ok (.iconst (-1), 1) := by decide +kernel
theorem dX4_canWeigh_9 : decode cX4_canWeigh 9 = .ok (.ixor, 1) := by decide +kernel
theorem dX4_canWeigh_10 : decode cX4_canWeigh 10 = .ok (.istore_n 3, 1) := by decide +kernel
theorem dX4_canWeigh_11 : decode cX4_canWeigh 11 = .ok (.iload_n 1, 1) := by decide +kernel
theorem dX4_canWeigh_12 : decode cX4_canWeigh 12 = .ok (.iload_n 2, 1) := by decide +kernel
theorem dX4_canWeigh_13 : decode cX4_canWeigh 13 = .ok (.ior, 1) := by decide +kernel
theorem dX4_canWeigh_14 : decode cX4_canWeigh 14 = .ok (.iload_n 3, 1) := by decide +kernel
theorem dX4_canWeigh_15 : decode cX4_canWeigh 15 = .ok (.iand, 1) := by decide +kernel
theorem dX4_canWeigh_16 : decode cX4_canWeigh 16 = .ok (.ifCond .ne 19, 3) := by decide +kernel
theorem dX4_canWeigh_19 : decode cX4_canWeigh 19 = .ok (.iload_n 1, 1) := by decide +kernel
theorem dX4_canWeigh_20 : decode cX4_canWeigh 20 = .ok (.iload_n 2, 1) := by decide +kernel
theorem dX4_canWeigh_21 : decode cX4_canWeigh 21 = .ok (.iand, 1) := by decide +kernel
theorem dX4_canWeigh_22 : decode cX4_canWeigh 22 = .ok (.ifCond .ne 13, 3) := by decide +kernel
theorem dX4_canWeigh_25 : decode cX4_canWeigh 25 = .ok (.iload_n 1, 1) := by decide +kernel
theorem dX4_canWeigh_26 : decode cX4_canWeigh 26 = .ok (.iload_n 2, 1) := by decide +kernel
theorem dX4_canWeigh_27 : decode cX4_canWeigh 27 = .ok (.ior, 1) := by decide +kernel
theorem dX4_canWeigh_28 : decode cX4_canWeigh 28 = .ok (.ifCond .eq 7, 3) := by decide +kernel
theorem dX4_canWeigh_31 : decode cX4_canWeigh 31 = .ok (.iconst 1, 1) := by decide +kernel
theorem dX4_canWeigh_32 : decode cX4_canWeigh 32 = .ok (.goto 4, 3) := by decide +kernel
theorem dX4_canWeigh_35 : decode cX4_canWeigh 35 = .ok (.iconst 0, 1) := by decide +kernel
theorem dX4_canWeigh_36 : decode cX4_canWeigh 36 = .ok (.ireturn, 1) := by decide +kernel
theorem dX4_tryArms_0 : decode cX4_tryArms 0 = .ok (.iload_n 1, 1) := by decide +kernel
theorem dX4_tryArms_1 : decode cX4_tryArms 1 = .ok (.invokestatic 67, 3) := by decide +kernel
theorem dX4_tryArms_4 : decode cX4_tryArms 4 = .ok (.ifCond .eq 10, 3) := by decide +kernel
theorem dX4_tryArms_7 : decode cX4_tryArms 7 = .ok (.iload_n 2, 1) := by decide +kernel
theorem dX4_tryArms_8 : decode cX4_tryArms 8 = .ok (.invokestatic 67, 3) := by decide +kernel
theorem dX4_tryArms_11 : decode cX4_tryArms 11 = .ok (.ifCond .ne 5, 3) := by decide +kernel
theorem dX4_tryArms_14 : decode cX4_tryArms 14 = .ok (.iconst 0, 1) := by decide +kernel
theorem dX4_tryArms_15 : decode cX4_tryArms 15 = .ok (.ireturn, 1) := by decide +kernel
theorem dX4_tryArms_16 : decode cX4_tryArms 16 = .ok (.aload_n 0, 1) := by decide +kernel
theorem dX4_tryArms_17 : decode cX4_tryArms 17 = .ok (.iload_n 1, 1) := by decide +kernel
theorem dX4_tryArms_18 : decode cX4_tryArms 18 = .ok (.putfield 33, 3) := by decide +kernel
theorem dX4_tryArms_21 : decode cX4_tryArms 21 = .ok (.aload_n 0, 1) := by decide +kernel
theorem dX4_tryArms_22 : decode cX4_tryArms 22 = .ok (.iload_n 2, 1) := by decide +kernel
theorem dX4_tryArms_23 : decode cX4_tryArms 23 = .ok (.putfield 37, 3) := by decide +kernel
theorem dX4_tryArms_26 : decode cX4_tryArms 26 = .ok (.iconst 1, 1) := by decide +kernel
theorem dX4_tryArms_27 : decode cX4_tryArms 27 = .ok (.ireturn, 1) := by decide +kernel
theorem dX4_tryWeighing_0 : decode cX4_tryWeighing 0 = .ok (.aload_n 0, 1) := by decide +kernel
theorem dX4_tryWeighing_1 : decode cX4_tryWeighing 1 = .ok (.iload_n 1, 1) := by decide +kernel
theorem dX4_tryWeighing_2 : decode cX4_tryWeighing 2 = .ok (.iload_n 2, 1) := by decide +kernel
theorem dX4_tryWeighing_3 : decode cX4_tryWeighing 3 = .ok (.invokevirtual 71, 3) := by decide +kernel
theorem dX4_tryWeighing_6 : decode cX4_tryWeighing 6 = .ok (.ifCond .eq 10, 3) := by decide +kernel
theorem dX4_tryWeighing_9 : decode cX4_tryWeighing 9 = .ok (.aload_n 0, 1) := by decide +kernel
theorem dX4_tryWeighing_10 : decode cX4_tryWeighing 10 = .ok (.invokevirtual 75, 3) := by decide +kernel
theorem dX4_tryWeighing_13 : decode cX4_tryWeighing 13 = .ok (.ifCond .eq 5, 3) := by decide +kernel
theorem dX4_tryWeighing_16 : decode cX4_tryWeighing 16 = .ok (.iconst 0, 1) := by decide +kernel
theorem dX4_tryWeighing_17 : decode cX4_tryWeighing 17 = .ok (.ireturn, 1) := by decide +kernel
theorem dX4_tryWeighing_18 : decode cX4_tryWeighing 18 = .ok (.aload_n 0, 1) := by decide +kernel
theorem dX4_tryWeighing_19 : decode cX4_tryWeighing 19 = .ok (.getfield 25, 3) := by decide +kernel
theorem dX4_tryWeighing_22 : decode cX4_tryWeighing 22 = .ok (.iload_n 1, 1) := by decide +kernel
theorem dX4_tryWeighing_23 : decode cX4_tryWeighing 23 = .ok (.iload_n 2, 1) := by decide +kernel
theorem dX4_tryWeighing_24 : decode cX4_tryWeighing 24 = .ok (.aload_n 0, 1) := by decide +kernel
theorem dX4_tryWeighing_25 : decode cX4_tryWeighing 25 = .ok (.getfield 33, 3) := by decide +kernel
theorem dX4_tryWeighing_28 : decode cX4_tryWeighing 28 = .ok (.aload_n 0, 1) := by decide +kernel
theorem dX4_tryWeighing_29 : decode cX4_tryWeighing 29 = .ok (.getfield 37, 3) := by decide +kernel
theorem dX4_tryWeighing_32 : decode cX4_tryWeighing 32 = .ok (.invokevirtual 79, 3) := by decide +kernel
theorem dX4_tryWeighing_35 : decode cX4_tryWeighing 35 = .ok (.aload_n 0, 1) := by decide +kernel
theorem dX4_tryWeighing_36 : decode cX4_tryWeighing 36 = .ok (.getfield 25, 3) := by decide +kernel
theorem dX4_tryWeighing_39 : decode cX4_tryWeighing 39 = .ok (.aload_n 0, 1) := by decide +kernel
theorem dX4_tryWeighing_40 : decode cX4_tryWeighing 40 = .ok (.getfield 49, 3) := by decide +kernel
theorem dX4_tryWeighing_43 : decode cX4_tryWeighing 43 = .ok (.invokevirtual 83, 3) := by decide +kernel
theorem dX4_tryWeighing_46 : decode cX4_tryWeighing 46 = .ok (.istore_n 3, 1) := by decide +kernel
theorem dX4_tryWeighing_47 : decode cX4_tryWeighing 47 = .ok (.aload_n 0, 1) := by decide +kernel
theorem dX4_tryWeighing_48 : decode cX4_tryWeighing 48 = .ok (.getfield 18, 3) := by decide +kernel
theorem dX4_tryWeighing_51 : decode cX4_tryWeighing 51 = .ok (.aload_n 0, 1) := by decide +kernel
theorem dX4_tryWeighing_52 : decode cX4_tryWeighing 52 = .ok (.getfield 25, 3) := by decide +kernel
theorem dX4_tryWeighing_55 : decode cX4_tryWeighing 55 = .ok (.iload_n 3, 1) := by decide +kernel
theorem dX4_tryWeighing_56 : decode cX4_tryWeighing 56 = .ok (.invokevirtual 86, 3) := by decide +kernel
theorem dX4_tryWeighing_59 : decode cX4_tryWeighing 59 = .ok (.aload_n 0, 1) := by decide +kernel
theorem dX4_tryWeighing_60 : decode cX4_tryWeighing 60 = .ok (.getfield 52, 3) := by decide +kernel
theorem dX4_tryWeighing_63 : decode cX4_tryWeighing 63 = .ok (.istore 4, 2) := by decide +kernel
theorem dX4_tryWeighing_65 : decode cX4_tryWeighing 65 = .ok (.aload_n 0, 1) := by decide +kernel
theorem dX4_tryWeighing_66 : decode cX4_tryWeighing 66 = .ok (.dup, 1) := by decide +kernel
theorem dX4_tryWeighing_67 : decode cX4_tryWeighing 67 = .ok (.getfield 52, 3) := by decide +kernel
theorem dX4_tryWeighing_70 : decode cX4_tryWeighing 70 = .ok (.iconst 1, 1) := by decide +kernel
theorem dX4_tryWeighing_71 : decode cX4_tryWeighing 71 = .ok (.iadd, 1) := by decide +kernel
theorem dX4_tryWeighing_72 : decode cX4_tryWeighing 72 = .ok (.putfield 52, 3) := by decide +kernel
theorem dX4_tryWeighing_75 : decode cX4_tryWeighing 75 = .ok (.aload_n 0, 1) := by decide +kernel
theorem dX4_tryWeighing_76 : decode cX4_tryWeighing 76 = .ok (.iload 4, 2) := by decide +kernel
theorem dX4_tryWeighing_78 : decode cX4_tryWeighing 78 = .ok (.iconst 0, 1) := by decide +kernel
theorem dX4_tryWeighing_79 : decode cX4_tryWeighing 79 = .ok (.iload_n 1, 1) := by decide +kernel
theorem dX4_tryWeighing_80 : decode cX4_tryWeighing 80 = .ok (.invokevirtual 90, 3) := by decide +kernel
theorem dX4_tryWeighing_83 : decode cX4_tryWeighing 83 = .ok (.aload_n 0, 1) := by decide +kernel
theorem dX4_tryWeighing_84 : decode cX4_tryWeighing 84 = .ok (.iload 4, 2) := by decide +kernel
theorem dX4_tryWeighing_86 : decode cX4_tryWeighing 86 = .ok (.iconst 1, 1) := by decide +kernel
theorem dX4_tryWeighing_87 : decode cX4_tryWeighing 87 = .ok (.iload_n 2, 1) := by decide +kernel
theorem dX4_tryWeighing_88 : decode cX4_tryWeighing 88 = .ok (.invokevirtual 90, 3) := by decide +kernel
theorem dX4_tryWeighing_91 : decode cX4_tryWeighing 91 = .ok (.aload_n 0, 1) := by decide +kernel
theorem dX4_tryWeighing_92 : decode cX4_tryWeighing 92 = .ok (.iload 4, 2) := by decide +kernel
theorem dX4_tryWeighing_94 : decode cX4_tryWeighing 94 = .ok (.iconst 2, 1) := by decide +kernel
theorem dX4_tryWeighing_95 : decode cX4_tryWeighing 95 = .ok (.iload_n 3, 1) := by decide +kernel
theorem dX4_tryWeighing_96 : decode cX4_tryWeighing 96 = .ok (.invokevirtual 90, 3) := by decide +kernel
theorem dX4_tryWeighing_99 : decode cX4_tryWeighing 99 = .ok (.aload_n 0, 1) := by decide +kernel
theorem dX4_tryWeighing_100 : decode cX4_tryWeighing 100 = .ok (.iload 4, 2) := by decide +kernel
theorem dX4_tryWeighing_102 : decode cX4_tryWeighing 102 = .ok (.iconst 3, 1) := by decide +kernel
theorem dX4_tryWeighing_103 : decode cX4_tryWeighing 103 = .ok (.aload_n 0, 1) := by decide +kernel
theorem dX4_tryWeighing_104 : decode cX4_tryWeighing 104 = .ok (.getfield 33, 3) := by decide +kernel
theorem dX4_tryWeighing_107 : decode cX4_tryWeighing 107 = .ok (.invokevirtual 90, 3) := by decide +kernel
theorem dX4_tryWeighing_110 : decode cX4_tryWeighing 110 = .ok (.aload_n 0, 1) := by decide +kernel
theorem dX4_tryWeighing_111 : decode cX4_tryWeighing 111 = .ok (.iload 4, 2) := by decide +kernel
theorem dX4_tryWeighing_113 : decode cX4_tryWeighing 113 = .ok (.iconst 4, 1) := by decide +kernel
theorem dX4_tryWeighing_114 : decode cX4_tryWeighing 114 = .ok (.aload_n 0, 1) := by decide +kernel
theorem dX4_tryWeighing_115 : decode cX4_tryWeighing 115 = .ok (.getfield 37, 3) := by decide +kernel
theorem dX4_tryWeighing_118 : decode cX4_tryWeighing 118 = .ok (.invokevirtual 90, 3) := by decide +kernel
theorem dX4_tryWeighing_121 : decode cX4_tryWeighing 121 = .ok (.aload_n 0, 1) := by decide +kernel
theorem dX4_tryWeighing_122 : decode cX4_tryWeighing 122 = .ok (.iload 4, 2) := by decide +kernel
theorem dX4_tryWeighing_124 : decode cX4_tryWeighing 124 = .ok (.iconst 5, 1) := by decide +kernel
theorem dX4_tryWeighing_125 : decode cX4_tryWeighing 125 = .ok (.aload_n 0, 1) := by decide +kernel
theorem dX4_tryWeighing_126 : decode cX4_tryWeighing 126 = .ok (.getfield 18, 3) := by decide +kernel
theorem dX4_tryWeighing_129 : decode cX4_tryWeighing 129 = .ok (.invokevirtual 94, 3) := by decide +kernel
theorem dX4_tryWeighing_132 : decode cX4_tryWeighing 132 = .ok (.invokevirtual 90, 3) := by decide +kernel
theorem dX4_tryWeighing_135 : decode cX4_tryWeighing 135 = .ok (.iconst 1, 1) := by decide +kernel
theorem dX4_tryWeighing_136 : decode cX4_tryWeighing 136 = .ok (.ireturn, 1) := by decide +kernel
theorem dX4_lastOutcome_0 : decode cX4_lastOutcome 0 = .ok (.aload_n 0, 1) := by decide +kernel
theorem dX4_lastOutcome_1 : decode cX4_lastOutcome 1 = .ok (.aload_n 0, 1) := by decide +kernel
theorem dX4_lastOutcome_2 : decode cX4_lastOutcome 2 = .ok (.getfield 52, 3) := by decide +kernel
theorem dX4_lastOutcome_5 : decode cX4_lastOutcome 5 = .ok (.iconst 1, 1) := by decide +kernel
theorem dX4_lastOutcome_6 : decode cX4_lastOutcome 6 = .ok (.isub, 1) := by decide +kernel
theorem dX4_lastOutcome_7 : decode cX4_lastOutcome 7 = .ok (.iconst 2, 1) := by decide +kernel
theorem dX4_lastOutcome_8 : decode cX4_lastOutcome 8 = .ok (.invokevirtual 98, 3) := by decide +kernel
theorem dX4_lastOutcome_11 : decode cX4_lastOutcome 11 = .ok (.ireturn, 1) := by decide +kernel
theorem dX4_tryForgetting_0 : decode cX4_tryForgetting 0 = .ok (.aload_n 0, 1) := by decide +kernel
theorem dX4_tryForgetting_1 : decode cX4_tryForgetting 1 = .ok (.getfield 52, 3) := by decide +kernel
theorem dX4_tryForgetting_4 : decode cX4_tryForgetting 4 = .ok (.ifCond .gt 5, 3) := by decide +kernel
theorem dX4_tryForgetting_7 : decode cX4_tryForgetting 7 = .ok (.iconst 0, 1) := by decide +kernel
theorem dX4_tryForgetting_8 : decode cX4_tryForgetting 8 = .ok (.ireturn, 1) := by decide +kernel
theorem dX4_tryForgetting_9 : decode cX4_tryForgetting 9 = .ok (.aload_n 0, 1) := by decide +kernel
theorem dX4_tryForgetting_10 : decode cX4_tryForgetting 10 = .ok (.dup, 1) := by decide +kernel
theorem dX4_tryForgetting_11 : decode cX4_tryForgetting 11 = .ok (.getfield 52, 3) := by decide +kernel
theorem dX4_tryForgetting_14 : decode cX4_tryForgetting 14 = .ok (.iconst 1, 1) := by decide +kernel
theorem dX4_tryForgetting_15 : decode cX4_tryForgetting 15 = .ok (.isub, 1) := by decide +kernel
theorem dX4_tryForgetting_16 : decode cX4_tryForgetting 16 = .ok (.putfield 52, 3) := by decide +kernel
theorem dX4_tryForgetting_19 : decode cX4_tryForgetting 19 = .ok (.aload_n 0, 1) := by decide +kernel
theorem dX4_tryForgetting_20 : decode cX4_tryForgetting 20 = .ok (.getfield 18, 3) := by decide +kernel
theorem dX4_tryForgetting_23 : decode cX4_tryForgetting 23 = .ok (.aload_n 0, 1) := by decide +kernel
theorem dX4_tryForgetting_24 : decode cX4_tryForgetting 24 = .ok (.getfield 46, 3) := by decide +kernel
theorem dX4_tryForgetting_27 : decode cX4_tryForgetting 27 = .ok (.invokevirtual 59, 3) := by decide +kernel
theorem dX4_tryForgetting_30 : decode cX4_tryForgetting 30 = .ok (.iconst 0, 1) := by decide +kernel
theorem dX4_tryForgetting_31 : decode cX4_tryForgetting 31 = .ok (.istore_n 1, 1) := by decide +kernel
theorem dX4_tryForgetting_32 : decode cX4_tryForgetting 32 = .ok (.iload_n 1, 1) := by decide +kernel
theorem dX4_tryForgetting_33 : decode cX4_tryForgetting 33 = .ok (.aload_n 0, 1) := by decide +kernel
theorem dX4_tryForgetting_34 : decode cX4_tryForgetting 34 = .ok (.getfield 52, 3) := by decide +kernel
theorem dX4_tryForgetting_37 : decode cX4_tryForgetting 37 = .ok (.if_icmp .ge 57, 3) := by decide +kernel
theorem dX4_tryForgetting_40 : decode cX4_tryForgetting 40 = .ok (.aload_n 0, 1) := by decide +kernel
theorem dX4_tryForgetting_41 : decode cX4_tryForgetting 41 = .ok (.getfield 25, 3) := by decide +kernel
theorem dX4_tryForgetting_44 : decode cX4_tryForgetting 44 = .ok (.aload_n 0, 1) := by decide +kernel
theorem dX4_tryForgetting_45 : decode cX4_tryForgetting 45 = .ok (.iload_n 1, 1) := by decide +kernel
theorem dX4_tryForgetting_46 : decode cX4_tryForgetting 46 = .ok (.iconst 0, 1) := by decide +kernel
theorem dX4_tryForgetting_47 : decode cX4_tryForgetting 47 = .ok (.invokevirtual 98, 3) := by decide +kernel
theorem dX4_tryForgetting_50 : decode cX4_tryForgetting 50 = .ok (.aload_n 0, 1) := by decide +kernel
theorem dX4_tryForgetting_51 : decode cX4_tryForgetting 51 = .ok (.iload_n 1, 1) := by decide +kernel
theorem dX4_tryForgetting_52 : decode cX4_tryForgetting 52 = .ok (.iconst 1, 1) := by decide +kernel
theorem dX4_tryForgetting_53 : decode cX4_tryForgetting 53 = .ok (.invokevirtual 98, 3) := by decide +kernel
theorem dX4_tryForgetting_56 : decode cX4_tryForgetting 56 = .ok (.aload_n 0, 1) := by decide +kernel
theorem dX4_tryForgetting_57 : decode cX4_tryForgetting 57 = .ok (.iload_n 1, 1) := by decide +kernel
theorem dX4_tryForgetting_58 : decode cX4_tryForgetting 58 = .ok (.iconst 3, 1) := by decide +kernel
theorem dX4_tryForgetting_59 : decode cX4_tryForgetting 59 = .ok (.invokevirtual 98, 3) := by decide +kernel
theorem dX4_tryForgetting_62 : decode cX4_tryForgetting 62 = .ok (.aload_n 0, 1) := by decide +kernel
theorem dX4_tryForgetting_63 : decode cX4_tryForgetting 63 = .ok (.iload_n 1, 1) := by decide +kernel
theorem dX4_tryForgetting_64 : decode cX4_tryForgetting 64 = .ok (.iconst 4, 1) := by decide +kernel
theorem dX4_tryForgetting_65 : decode cX4_tryForgetting 65 = .ok (.invokevirtual 98, 3) := by decide +kernel
theorem dX4_tryForgetting_68 : decode cX4_tryForgetting 68 = .ok (.invokevirtual 79, 3) := by decide +kernel
theorem dX4_tryForgetting_71 : decode cX4_tryForgetting 71 = .ok (.aload_n 0, 1) := by decide +kernel
theorem dX4_tryForgetting_72 : decode cX4_tryForgetting 72 = .ok (.getfield 18, 3) := by decide +kernel
theorem dX4_tryForgetting_75 : decode cX4_tryForgetting 75 = .ok (.aload_n 0, 1) := by decide +kernel
theorem dX4_tryForgetting_76 : decode cX4_tryForgetting 76 = .ok (.getfield 25, 3) := by decide +kernel
theorem dX4_tryForgetting_79 : decode cX4_tryForgetting 79 = .ok (.aload_n 0, 1) := by decide +kernel
theorem dX4_tryForgetting_80 : decode cX4_tryForgetting 80 = .ok (.iload_n 1, 1) := by decide +kernel
theorem dX4_tryForgetting_81 : decode cX4_tryForgetting 81 = .ok (.iconst 2, 1) := by decide +kernel
theorem dX4_tryForgetting_82 : decode cX4_tryForgetting 82 = .ok (.invokevirtual 98, 3) := by decide +kernel
theorem dX4_tryForgetting_85 : decode cX4_tryForgetting 85 = .ok (.invokevirtual 86, 3) := by decide +kernel
theorem dX4_tryForgetting_88 : decode cX4_tryForgetting 88 = .ok (.iinc 1 1, 3) := by decide +kernel
theorem dX4_tryForgetting_91 : decode cX4_tryForgetting 91 = .ok (.goto (-59), 3) := by decide +kernel
theorem dX4_tryForgetting_94 : decode cX4_tryForgetting 94 = .ok (.iconst 1, 1) := by decide +kernel
theorem dX4_tryForgetting_95 : decode cX4_tryForgetting 95 = .ok (.ireturn, 1) := by decide +kernel
theorem dX4_blameCoin_0 : decode cX4_blameCoin 0 = .ok (.aload_n 0, 1) := by decide +kernel
theorem dX4_blameCoin_1 : decode cX4_blameCoin 1 = .ok (.aload_n 0, 1) := by decide +kernel
theorem dX4_blameCoin_2 : decode cX4_blameCoin 2 = .ok (.getfield 49, 3) := by decide +kernel
theorem dX4_blameCoin_5 : decode cX4_blameCoin 5 = .ok (.iconst 3, 1) := by decide +kernel
theorem dX4_blameCoin_6 : decode cX4_blameCoin 6 = .ok (.idiv, 1) := by decide +kernel
theorem dX4_blameCoin_7 : decode cX4_blameCoin 7 = .ok (.iconst 2, 1) := by decide +kernel
theorem dX4_blameCoin_8 : decode cX4_blameCoin 8 = .ok (.iload_n 1, 1) := by decide +kernel
theorem dX4_blameCoin_9 : decode cX4_blameCoin 9 = .ok (.imul, 1) := by decide +kernel
theorem dX4_blameCoin_10 : decode cX4_blameCoin 10 = .ok (.iload_n 2, 1) := by decide +kernel
theorem dX4_blameCoin_11 : decode cX4_blameCoin 11 = .ok (.ifCond .eq 7, 3) := by decide +kernel
theorem dX4_blameCoin_14 : decode cX4_blameCoin 14 = .ok (.iconst 1, 1) := by decide +kernel
theorem dX4_blameCoin_15 : decode cX4_blameCoin 15 = .ok (.goto 4, 3) := by decide +kernel
theorem dX4_blameCoin_18 : decode cX4_blameCoin 18 = .ok (.iconst 0, 1) := by decide +kernel
theorem dX4_blameCoin_19 : decode cX4_blameCoin 19 = .ok (.iadd, 1) := by decide +kernel
theorem dX4_blameCoin_20 : decode cX4_blameCoin 20 = .ok (.if_icmp .ne 7, 3) := by decide +kernel
theorem dX4_blameCoin_23 : decode cX4_blameCoin 23 = .ok (.iconst 1, 1) := by decide +kernel
theorem dX4_blameCoin_24 : decode cX4_blameCoin 24 = .ok (.goto 4, 3) := by decide +kernel
theorem dX4_blameCoin_27 : decode cX4_blameCoin 27 = .ok (.iconst 0, 1) := by decide +kernel
theorem dX4_blameCoin_28 : decode cX4_blameCoin 28 = .ok (.invokevirtual 102, 3) := by decide +kernel
theorem dX4_blameCoin_31 : decode cX4_blameCoin 31 = .ok (.ireturn, 1) := by decide +kernel
theorem dX4_blamePan_0 : decode cX4_blamePan 0 = .ok (.aload_n 0, 1) := by decide +kernel
theorem dX4_blamePan_1 : decode cX4_blamePan 1 = .ok (.aload_n 0, 1) := by decide +kernel
theorem dX4_blamePan_2 : decode cX4_blamePan 2 = .ok (.getfield 49, 3) := by decide +kernel
theorem dX4_blamePan_5 : decode cX4_blamePan 5 = .ok (.iconst 3, 1) := by decide +kernel
theorem dX4_blamePan_6 : decode cX4_blamePan 6 = .ok (.irem, 1) := by decide +kernel
theorem dX4_blamePan_7 : decode cX4_blamePan 7 = .ok (.iload_n 1, 1) := by decide +kernel
theorem dX4_blamePan_8 : decode cX4_blamePan 8 = .ok (.if_icmp .ne 7, 3) := by decide +kernel
theorem dX4_blamePan_11 : decode cX4_blamePan 11 = .ok (.iconst 1, 1) := by decide +kernel
theorem dX4_blamePan_12 : decode cX4_blamePan 12 = .ok (.goto 4, 3) := by decide +kernel
theorem dX4_blamePan_15 : decode cX4_blamePan 15 = .ok (.iconst 0, 1) := by decide +kernel
theorem dX4_blamePan_16 : decode cX4_blamePan 16 = .ok (.invokevirtual 102, 3) := by decide +kernel
theorem dX4_blamePan_19 : decode cX4_blamePan 19 = .ok (.ireturn, 1) := by decide +kernel
theorem dX4_noteBlame_0 : decode cX4_noteBlame 0 = .ok (.iload_n 1, 1) := by decide +kernel
theorem dX4_noteBlame_1 : decode cX4_noteBlame 1 = .ok (.ifCond .eq 16, 3) := by decide +kernel
theorem dX4_noteBlame_4 : decode cX4_noteBlame 4 = .ok (.aload_n 0, 1) := by decide +kernel
theorem dX4_noteBlame_5 : decode cX4_noteBlame 5 = .ok (.dup, 1) := by decide +kernel
theorem dX4_noteBlame_6 : decode cX4_noteBlame 6 = .ok (.getfield 40, 3) := by decide +kernel
theorem dX4_noteBlame_9 : decode cX4_noteBlame 9 = .ok (.iconst 1, 1) := by decide +kernel
theorem dX4_noteBlame_10 : decode cX4_noteBlame 10 = .ok (.iadd, 1) := by decide +kernel
theorem dX4_noteBlame_11 : decode cX4_noteBlame 11 = .ok (.putfield 40, 3) := by decide +kernel
theorem dX4_noteBlame_14 : decode cX4_noteBlame 14 = .ok (.goto 13, 3) := by decide +kernel
theorem dX4_noteBlame_17 : decode cX4_noteBlame 17 = .ok (.aload_n 0, 1) := by decide +kernel
theorem dX4_noteBlame_18 : decode cX4_noteBlame 18 = .ok (.dup, 1) := by decide +kernel
theorem dX4_noteBlame_19 : decode cX4_noteBlame 19 = .ok (.getfield 43, 3) := by decide +kernel
theorem dX4_noteBlame_22 : decode cX4_noteBlame 22 = .ok (.iconst 1, 1) := by decide +kernel
theorem dX4_noteBlame_23 : decode cX4_noteBlame 23 = .ok (.iadd, 1) := by decide +kernel
theorem dX4_noteBlame_24 : decode cX4_noteBlame 24 = .ok (.putfield 43, 3) := by decide +kernel
theorem dX4_noteBlame_27 : decode cX4_noteBlame 27 = .ok (.iload_n 1, 1) := by decide +kernel
theorem dX4_noteBlame_28 : decode cX4_noteBlame 28 = .ok (.ireturn, 1) := by decide +kernel
theorem dX4_idleWeighings_0 : decode cX4_idleWeighings 0 = .ok (.iconst 0, 1) := by decide +kernel
theorem dX4_idleWeighings_1 : decode cX4_idleWeighings 1 = .ok (.istore_n 1, 1) := by decide +kernel
theorem dX4_idleWeighings_2 : decode cX4_idleWeighings 2 = .ok (.aload_n 0, 1) := by decide +kernel
theorem dX4_idleWeighings_3 : decode cX4_idleWeighings 3 = .ok (.invokevirtual 106, 3) := by decide +kernel
theorem dX4_idleWeighings_6 : decode cX4_idleWeighings 6 = .ok (.istore_n 2, 1) := by decide +kernel
theorem dX4_idleWeighings_7 : decode cX4_idleWeighings 7 = .ok (.iconst 0, 1) := by decide +kernel
theorem dX4_idleWeighings_8 : decode cX4_idleWeighings 8 = .ok (.istore_n 3, 1) := by decide +kernel
theorem dX4_idleWeighings_9 : decode cX4_idleWeighings 9 = .ok (.iload_n 3, 1) := by decide +kernel
theorem dX4_idleWeighings_10 : decode cX4_idleWeighings 10 = .ok (.aload_n 0, 1) := by decide +kernel
theorem dX4_idleWeighings_11 : decode cX4_idleWeighings 11 = .ok (.getfield 52, 3) := by decide +kernel
theorem dX4_idleWeighings_14 : decode cX4_idleWeighings 14 = .ok (.if_icmp .ge 29, 3) := by decide +kernel
theorem dX4_idleWeighings_17 : decode cX4_idleWeighings 17 = .ok (.aload_n 0, 1) := by decide +kernel
theorem dX4_idleWeighings_18 : decode cX4_idleWeighings 18 = .ok (.iload_n 3, 1) := by decide +kernel
theorem dX4_idleWeighings_19 : decode cX4_idleWeighings 19 = .ok (.iconst 5, 1) := by decide +kernel
theorem dX4_idleWeighings_20 : decode cX4_idleWeighings 20 = .ok (.invokevirtual 98, 3) := by decide +kernel
theorem dX4_idleWeighings_23 : decode cX4_idleWeighings 23 = .ok (.istore 4, 2) := by decide +kernel
theorem dX4_idleWeighings_25 : decode cX4_idleWeighings 25 = .ok (.iload 4, 2) := by decide +kernel
theorem dX4_idleWeighings_27 : decode cX4_idleWeighings 27 = .ok (.iload_n 2, 1) := by decide +kernel
theorem dX4_idleWeighings_28 : decode cX4_idleWeighings 28 = .ok (.if_icmp .ne 6, 3) := by decide +kernel
theorem dX4_idleWeighings_31 : decode cX4_idleWeighings 31 = .ok (.iinc 1 1, 3) := by decide +kernel
theorem dX4_idleWeighings_34 : decode cX4_idleWeighings 34 = .ok (.iload 4, 2) := by decide +kernel
theorem dX4_idleWeighings_36 : decode cX4_idleWeighings 36 = .ok (.istore_n 2, 1) := by decide +kernel
theorem dX4_idleWeighings_37 : decode cX4_idleWeighings 37 = .ok (.iinc 3 1, 3) := by decide +kernel
theorem dX4_idleWeighings_40 : decode cX4_idleWeighings 40 = .ok (.goto (-31), 3) := by decide +kernel
theorem dX4_idleWeighings_43 : decode cX4_idleWeighings 43 = .ok (.iload_n 1, 1) := by decide +kernel
theorem dX4_idleWeighings_44 : decode cX4_idleWeighings 44 = .ok (.ireturn, 1) := by decide +kernel
theorem dX4_foresee_0 : decode cX4_foresee 0 = .ok (.aload_n 0, 1) := by decide +kernel
theorem dX4_foresee_1 : decode cX4_foresee 1 = .ok (.iload_n 1, 1) := by decide +kernel
theorem dX4_foresee_2 : decode cX4_foresee 2 = .ok (.iload_n 2, 1) := by decide +kernel
theorem dX4_foresee_3 : decode cX4_foresee 3 = .ok (.aload_n 0, 1) := by decide +kernel
theorem dX4_foresee_4 : decode cX4_foresee 4 = .ok (.getfield 33, 3) := by decide +kernel
theorem dX4_foresee_7 : decode cX4_foresee 7 = .ok (.aload_n 0, 1) := by decide +kernel
theorem dX4_foresee_8 : decode cX4_foresee 8 = .ok (.getfield 37, 3) := by decide +kernel
theorem dX4_foresee_11 : decode cX4_foresee 11 = .ok (.aload_n 3, 1) := by decide +kernel
theorem dX4_foresee_12 : decode cX4_foresee 12 = .ok (.invokevirtual 109, 3) := by decide +kernel
theorem dX4_foresee_15 : decode cX4_foresee 15 = .ok (.return_, 1) := by decide +kernel
theorem dX4_foreseeWith_0 : decode cX4_foreseeWith 0 = .ok (.aload_n 0, 1) := by decide +kernel
theorem dX4_foreseeWith_1 : decode cX4_foreseeWith 1 = .ok (.getfield 25, 3) := by decide +kernel
theorem dX4_foreseeWith_4 : decode cX4_foreseeWith 4 = .ok (.iload_n 1, 1) := by decide +kernel
theorem dX4_foreseeWith_5 : decode cX4_foreseeWith 5 = .ok (.iload_n 2, 1) := by decide +kernel
theorem dX4_foreseeWith_6 : decode cX4_foreseeWith 6 = .ok (.iload_n 3, 1) := by decide +kernel
theorem dX4_foreseeWith_7 : decode cX4_foreseeWith 7 = .ok (.iload 4, 2) := by decide +kernel
theorem dX4_foreseeWith_9 : decode cX4_foreseeWith 9 = .ok (.invokevirtual 79, 3) := by decide +kernel
theorem dX4_foreseeWith_12 : decode cX4_foreseeWith 12 = .ok (.aload_n 0, 1) := by decide +kernel
theorem dX4_foreseeWith_13 : decode cX4_foreseeWith 13 = .ok (.getfield 18, 3) := by decide +kernel
theorem dX4_foreseeWith_16 : decode cX4_foreseeWith 16 = .ok (.aload_n 0, 1) := by decide +kernel
theorem dX4_foreseeWith_17 : decode cX4_foreseeWith 17 = .ok (.getfield 25, 3) := by decide +kernel
theorem dX4_foreseeWith_20 : decode cX4_foreseeWith 20 = .ok (.aload 5, 2) := by decide +kernel
theorem dX4_foreseeWith_22 : decode cX4_foreseeWith 22 = .ok (.invokevirtual 113, 3) := by decide +kernel
theorem dX4_foreseeWith_25 : decode cX4_foreseeWith 25 = .ok (.return_, 1) := by decide +kernel
theorem dX4_kept_0 : decode cX4_kept 0 = .ok (.bipush 6, 2) := by decide +kernel
theorem dX4_kept_2 : decode cX4_kept 2 = .ok (.iload_n 1, 1) := by decide +kernel
theorem dX4_kept_3 : decode cX4_kept 3 = .ok (.imul, 1) := by decide +kernel
theorem dX4_kept_4 : decode cX4_kept 4 = .ok (.iload_n 2, 1) := by decide +kernel
theorem dX4_kept_5 : decode cX4_kept 5 = .ok (.iadd, 1) := by decide +kernel
theorem dX4_kept_6 : decode cX4_kept 6 = .ok (.istore_n 3, 1) := by decide +kernel
theorem dX4_kept_7 : decode cX4_kept 7 = .ok (.iload_n 3, 1) := by decide +kernel
theorem dX4_kept_8 : decode cX4_kept 8 = .ok (.ifCond .lt 21, 3) := by decide +kernel
theorem dX4_kept_11 : decode cX4_kept 11 = .ok (.iload_n 3, 1) := by decide +kernel
theorem dX4_kept_12 : decode cX4_kept 12 = .ok (.aload_n 0, 1) := by decide +kernel
theorem dX4_kept_13 : decode cX4_kept 13 = .ok (.getfield 9, 3) := by decide +kernel
theorem dX4_kept_16 : decode cX4_kept 16 = .ok (.arraylength, 1) := by decide +kernel
theorem dX4_kept_17 : decode cX4_kept 17 = .ok (.if_icmp .ge 12, 3) := by decide +kernel
theorem dX4_kept_20 : decode cX4_kept 20 = .ok (.aload_n 0, 1) := by decide +kernel
theorem dX4_kept_21 : decode cX4_kept 21 = .ok (.getfield 9, 3) := by decide +kernel
theorem dX4_kept_24 : decode cX4_kept 24 = .ok (.iload_n 3, 1) := by decide +kernel
theorem dX4_kept_25 : decode cX4_kept 25 = .ok (.iaload, 1) := by decide +kernel
theorem dX4_kept_26 : decode cX4_kept 26 = .ok (.goto 4, 3) := by decide +kernel
theorem dX4_kept_29 : decode cX4_kept 29 = .ok (.iconst 0, 1) := by decide +kernel
theorem dX4_kept_30 : decode cX4_kept 30 = .ok (.ireturn, 1) := by decide +kernel
theorem dX4_write_0 : decode cX4_write 0 = .ok (.bipush 6, 2) := by decide +kernel
theorem dX4_write_2 : decode cX4_write 2 = .ok (.iload_n 1, 1) := by decide +kernel
theorem dX4_write_3 : decode cX4_write 3 = .ok (.imul, 1) := by decide +kernel
theorem dX4_write_4 : decode cX4_write 4 = .ok (.iload_n 2, 1) := by decide +kernel
theorem dX4_write_5 : decode cX4_write 5 = .ok (.iadd, 1) := by decide +kernel
theorem dX4_write_6 : decode cX4_write 6 = .ok (.istore 4, 2) := by decide +kernel
theorem dX4_write_8 : decode cX4_write 8 = .ok (.iload 4, 2) := by decide +kernel
theorem dX4_write_10 : decode cX4_write 10 = .ok (.ifCond .lt 21, 3) := by decide +kernel
theorem dX4_write_13 : decode cX4_write 13 = .ok (.iload 4, 2) := by decide +kernel
theorem dX4_write_15 : decode cX4_write 15 = .ok (.aload_n 0, 1) := by decide +kernel
theorem dX4_write_16 : decode cX4_write 16 = .ok (.getfield 9, 3) := by decide +kernel
theorem dX4_write_19 : decode cX4_write 19 = .ok (.arraylength, 1) := by decide +kernel
theorem dX4_write_20 : decode cX4_write 20 = .ok (.if_icmp .ge 11, 3) := by decide +kernel
theorem dX4_write_23 : decode cX4_write 23 = .ok (.aload_n 0, 1) := by decide +kernel
theorem dX4_write_24 : decode cX4_write 24 = .ok (.getfield 9, 3) := by decide +kernel
theorem dX4_write_27 : decode cX4_write 27 = .ok (.iload 4, 2) := by decide +kernel
theorem dX4_write_29 : decode cX4_write 29 = .ok (.iload_n 3, 1) := by decide +kernel
theorem dX4_write_30 : decode cX4_write 30 = .ok (.iastore, 1) := by decide +kernel
theorem dX4_write_31 : decode cX4_write 31 = .ok (.return_, 1) := by decide +kernel
theorem dX5_init_0 : decode cX5_init 0 = .ok (.aload_n 0, 1) := by decide +kernel
theorem dX5_init_1 : decode cX5_init 1 = .ok (.invokespecial 1, 3) := by decide +kernel
theorem dX5_init_4 : decode cX5_init 4 = .ok (.return_, 1) := by decide +kernel
theorem dX5_clear_0 : decode cX5_clear 0 = .ok (.aload_n 0, 1) := by decide +kernel
theorem dX5_clear_1 : decode cX5_clear 1 = .ok (.iconst 0, 1) := by decide +kernel
theorem dX5_clear_2 : decode cX5_clear 2 = .ok (.putfield 7, 3) := by decide +kernel
theorem dX5_clear_5 : decode cX5_clear 5 = .ok (.aload_n 0, 1) := by decide +kernel
theorem dX5_clear_6 : decode cX5_clear 6 = .ok (.iconst 0, 1) := by decide +kernel
theorem dX5_clear_7 : decode cX5_clear 7 = .ok (.putfield 13, 3) := by decide +kernel
theorem dX5_clear_10 : decode cX5_clear 10 = .ok (.aload_n 0, 1) := by decide +kernel
theorem dX5_clear_11 : decode cX5_clear 11 = .ok (.iconst 0, 1) := by decide +kernel
theorem dX5_clear_12 : decode cX5_clear 12 = .ok (.putfield 16, 3) := by decide +kernel
theorem dX5_clear_15 : decode cX5_clear 15 = .ok (.return_, 1) := by decide +kernel
theorem dX5_add_0 : decode cX5_add 0 = .ok (.iload_n 1, 1) := by decide +kernel
theorem dX5_add_1 : decode cX5_add 1 = .ok (.ifCond .ne 16, 3) := by decide +kernel
theorem dX5_add_4 : decode cX5_add 4 = .ok (.aload_n 0, 1) := by decide +kernel
theorem dX5_add_5 : decode cX5_add 5 = .ok (.dup, 1) := by decide +kernel
theorem dX5_add_6 : decode cX5_add 6 = .ok (.getfield 7, 3) := by decide +kernel
theorem dX5_add_9 : decode cX5_add 9 = .ok (.iload_n 2, 1) := by decide +kernel
theorem dX5_add_10 : decode cX5_add 10 = .ok (.iadd, 1) := by decide +kernel
theorem dX5_add_11 : decode cX5_add 11 = .ok (.putfield 7, 3) := by decide +kernel
theorem dX5_add_14 : decode cX5_add 14 = .ok (.goto 31, 3) := by decide +kernel
theorem dX5_add_17 : decode cX5_add 17 = .ok (.iload_n 1, 1) := by decide +kernel
theorem dX5_add_18 : decode cX5_add 18 = .ok (.iconst 1, 1) := by decide +kernel
theorem dX5_add_19 : decode cX5_add 19 = .ok (.if_icmp .ne 16, 3) := by decide +kernel
theorem dX5_add_22 : decode cX5_add 22 = .ok (.aload_n 0, 1) := by decide +kernel
theorem dX5_add_23 : decode cX5_add 23 = .ok (.dup, 1) := by decide +kernel
theorem dX5_add_24 : decode cX5_add 24 = .ok (.getfield 13, 3) := by decide +kernel
theorem dX5_add_27 : decode cX5_add 27 = .ok (.iload_n 2, 1) := by decide +kernel
theorem dX5_add_28 : decode cX5_add 28 = .ok (.iadd, 1) := by decide +kernel
theorem dX5_add_29 : decode cX5_add 29 = .ok (.putfield 13, 3) := by decide +kernel
theorem dX5_add_32 : decode cX5_add 32 = .ok (.goto 13, 3) := by decide +kernel
theorem dX5_add_35 : decode cX5_add 35 = .ok (.aload_n 0, 1) := by decide +kernel
theorem dX5_add_36 : decode cX5_add 36 = .ok (.dup, 1) := by decide +kernel
theorem dX5_add_37 : decode cX5_add 37 = .ok (.getfield 16, 3) := by decide +kernel
theorem dX5_add_40 : decode cX5_add 40 = .ok (.iload_n 2, 1) := by decide +kernel
theorem dX5_add_41 : decode cX5_add 41 = .ok (.iadd, 1) := by decide +kernel
theorem dX5_add_42 : decode cX5_add 42 = .ok (.putfield 16, 3) := by decide +kernel
theorem dX5_add_45 : decode cX5_add 45 = .ok (.return_, 1) := by decide +kernel
theorem dX5_of_0 : decode cX5_of 0 = .ok (.iload_n 1, 1) := by decide +kernel
theorem dX5_of_1 : decode cX5_of 1 = .ok (.ifCond .ne 10, 3) := by decide +kernel
theorem dX5_of_4 : decode cX5_of 4 = .ok (.aload_n 0, 1) := by decide +kernel
theorem dX5_of_5 : decode cX5_of 5 = .ok (.getfield 7, 3) := by decide +kernel
theorem dX5_of_8 : decode cX5_of 8 = .ok (.goto 19, 3) := by decide +kernel
theorem dX5_of_11 : decode cX5_of 11 = .ok (.iload_n 1, 1) := by decide +kernel
theorem dX5_of_12 : decode cX5_of 12 = .ok (.iconst 1, 1) := by decide +kernel
theorem dX5_of_13 : decode cX5_of 13 = .ok (.if_icmp .ne 10, 3) := by decide +kernel
theorem dX5_of_16 : decode cX5_of 16 = .ok (.aload_n 0, 1) := by decide +kernel
theorem dX5_of_17 : decode cX5_of 17 = .ok (.getfield 13, 3) := by decide +kernel
theorem dX5_of_20 : decode cX5_of 20 = .ok (.goto 7, 3) := by decide +kernel
theorem dX5_of_23 : decode cX5_of 23 = .ok (.aload_n 0, 1) := by decide +kernel
theorem dX5_of_24 : decode cX5_of 24 = .ok (.getfield 16, 3) := by decide +kernel
theorem dX5_of_27 : decode cX5_of 27 = .ok (.ireturn, 1) := by decide +kernel
theorem dX5_worst_0 : decode cX5_worst 0 = .ok (.aload_n 0, 1) := by decide +kernel
theorem dX5_worst_1 : decode cX5_worst 1 = .ok (.getfield 7, 3) := by decide +kernel
theorem dX5_worst_4 : decode cX5_worst 4 = .ok (.aload_n 0, 1) := by decide +kernel
theorem dX5_worst_5 : decode cX5_worst 5 = .ok (.getfield 13, 3) := by decide +kernel
theorem dX5_worst_8 : decode cX5_worst 8 = .ok (.aload_n 0, 1) := by decide +kernel
theorem dX5_worst_9 : decode cX5_worst 9 = .ok (.getfield 16, 3) := by decide +kernel
theorem dX5_worst_12 : decode cX5_worst 12 = .ok (.invokestatic 19, 3) := by decide +kernel
theorem dX5_worst_15 : decode cX5_worst 15 = .ok (.invokestatic 19, 3) := by decide +kernel
theorem dX5_worst_18 : decode cX5_worst 18 = .ok (.ireturn, 1) := by decide +kernel
theorem dX5_unlikePairs_0 : decode cX5_unlikePairs 0 = .ok (.aload_n 0, 1) := by decide +kernel
theorem dX5_unlikePairs_1 : decode cX5_unlikePairs 1 = .ok (.getfield 7, 3) := by decide +kernel
theorem dX5_unlikePairs_4 : decode cX5_unlikePairs 4 = .ok (.aload_n 0, 1) := by decide +kernel
theorem dX5_unlikePairs_5 : decode cX5_unlikePairs 5 = .ok (.getfield 13, 3) := by decide +kernel
theorem dX5_unlikePairs_8 : decode cX5_unlikePairs 8 = .ok (.imul, 1) := by decide +kernel
theorem dX5_unlikePairs_9 : decode cX5_unlikePairs 9 = .ok (.aload_n 0, 1) := by decide +kernel
theorem dX5_unlikePairs_10 : decode cX5_unlikePairs 10 = .ok (.getfield 7, 3) := by decide +kernel
theorem dX5_unlikePairs_13 : decode cX5_unlikePairs 13 = .ok (.aload_n 0, 1) := by decide +kernel
theorem dX5_unlikePairs_14 : decode cX5_unlikePairs 14 = .ok (.getfield 16, 3) := by decide +kernel
theorem dX5_unlikePairs_17 : decode cX5_unlikePairs 17 = .ok (.imul, 1) := by decide +kernel
theorem dX5_unlikePairs_18 : decode cX5_unlikePairs 18 = .ok (.iadd, 1) := by decide +kernel
theorem dX5_unlikePairs_19 : decode cX5_unlikePairs 19 = .ok (.aload_n 0, 1) := by decide +kernel
theorem dX5_unlikePairs_20 : decode cX5_unlikePairs 20 = .ok (.getfield 13, 3) := by decide +kernel
theorem dX5_unlikePairs_23 : decode cX5_unlikePairs 23 = .ok (.aload_n 0, 1) := by decide +kernel
theorem dX5_unlikePairs_24 : decode cX5_unlikePairs 24 = .ok (.getfield 16, 3) := by decide +kernel
theorem dX5_unlikePairs_27 : decode cX5_unlikePairs 27 = .ok (.imul, 1) := by decide +kernel
theorem dX5_unlikePairs_28 : decode cX5_unlikePairs 28 = .ok (.iadd, 1) := by decide +kernel
theorem dX5_unlikePairs_29 : decode cX5_unlikePairs 29 = .ok (.ireturn, 1) := by decide +kernel
theorem dX6_init_0 : decode cX6_init 0 = .ok (.aload_n 0, 1) := by decide +kernel
theorem dX6_init_1 : decode cX6_init 1 = .ok (.invokespecial 3, 3) := by decide +kernel
theorem dX6_init_4 : decode cX6_init 4 = .ok (.aload_n 0, 1) := by decide +kernel
theorem dX6_init_5 : decode cX6_init 5 = .ok (.bipush 120, 2) := by decide +kernel
theorem dX6_init_7 : decode cX6_init 7 = .ok (.newarray .char, 2) := by decide +kernel
theorem dX6_init_9 : decode cX6_init 9 = .ok (.putfield 9, 3) := by decide +kernel
theorem dX6_init_12 : decode cX6_init 12 = .ok (.return_, 1) := by decide +kernel
theorem dX6_add_0 : decode cX6_add 0 = .ok (.aload_n 0, 1) := by decide +kernel
theorem dX6_add_1 : decode cX6_add 1 = .ok (.getfield 15, 3) := by decide +kernel
theorem dX6_add_4 : decode cX6_add 4 = .ok (.ifCond .lt 35, 3) := by decide +kernel
theorem dX6_add_7 : decode cX6_add 7 = .ok (.aload_n 0, 1) := by decide +kernel
theorem dX6_add_8 : decode cX6_add 8 = .ok (.getfield 15, 3) := by decide +kernel
theorem dX6_add_11 : decode cX6_add 11 = .ok (.aload_n 0, 1) := by decide +kernel
theorem dX6_add_12 : decode cX6_add 12 = .ok (.getfield 9, 3) := by decide +kernel
theorem dX6_add_15 : decode cX6_add 15 = .ok (.arraylength, 1) := by decide +kernel
theorem dX6_add_16 : decode cX6_add 16 = .ok (.if_icmp .ge 23, 3) := by decide +kernel
theorem dX6_add_19 : decode cX6_add 19 = .ok (.aload_n 0, 1) := by decide +kernel
theorem dX6_add_20 : decode cX6_add 20 = .ok (.getfield 9, 3) := by decide +kernel
theorem dX6_add_23 : decode cX6_add 23 = .ok (.aload_n 0, 1) := by decide +kernel
theorem dX6_add_24 : decode cX6_add 24 = .ok (.getfield 15, 3) := by decide +kernel
theorem dX6_add_27 : decode cX6_add 27 = .ok (.iload_n 1, 1) := by decide +kernel
theorem dX6_add_28 : decode cX6_add 28 = .ok (.castore, 1) := by decide +kernel
theorem dX6_add_29 : decode cX6_add 29 = .ok (.aload_n 0, 1) := by decide +kernel
theorem dX6_add_30 : decode cX6_add 30 = .ok (.dup, 1) := by decide +kernel
theorem dX6_add_31 : decode cX6_add 31 = .ok (.getfield 15, 3) := by decide +kernel
theorem dX6_add_34 : decode cX6_add 34 = .ok (.iconst 1, 1) := by decide +kernel
theorem dX6_add_35 : decode cX6_add 35 = .ok (.iadd, 1) := by decide +kernel
theorem dX6_add_36 : decode cX6_add 36 = .ok (.putfield 15, 3) := by decide +kernel
theorem dX6_add_39 : decode cX6_add 39 = .ok (.return_, 1) := by decide +kernel
theorem dX6_hasMore_0 : decode cX6_hasMore 0 = .ok (.aload_n 0, 1) := by decide +kernel
theorem dX6_hasMore_1 : decode cX6_hasMore 1 = .ok (.getfield 19, 3) := by decide +kernel
theorem dX6_hasMore_4 : decode cX6_hasMore 4 = .ok (.ifCond .ne 18, 3) := by decide +kernel
theorem dX6_hasMore_7 : decode cX6_hasMore 7 = .ok (.aload_n 0, 1) := by decide +kernel
theorem dX6_hasMore_8 : decode cX6_hasMore 8 = .ok (.getfield 23, 3) := by decide +kernel
theorem dX6_hasMore_11 : decode cX6_hasMore 11 = .ok (.aload_n 0, 1) := by decide +kernel
theorem dX6_hasMore_12 : decode cX6_hasMore 12 = .ok (.getfield 15, 3) := by decide +kernel
theorem dX6_hasMore_15 : decode cX6_hasMore 15 = .ok (.if_icmp .ge 7, 3) := by decide +kernel
theorem dX6_hasMore_18 : decode cX6_hasMore 18 = .ok (.iconst 1, 1) := by decide +kernel
theorem dX6_hasMore_19 : decode cX6_hasMore 19 = .ok (.goto 4, 3) := by decide +kernel
theorem dX6_hasMore_22 : decode cX6_hasMore 22 = .ok (.iconst 0, 1) := by decide +kernel
theorem dX6_hasMore_23 : decode cX6_hasMore 23 = .ok (.ireturn, 1) := by decide +kernel
theorem dX6_readHead_0 : decode cX6_readHead 0 = .ok (.aload_n 0, 1) := by decide +kernel
theorem dX6_readHead_1 : decode cX6_readHead 1 = .ok (.iconst 0, 1) := by decide +kernel
theorem dX6_readHead_2 : decode cX6_readHead 2 = .ok (.putfield 23, 3) := by decide +kernel
theorem dX6_readHead_5 : decode cX6_readHead 5 = .ok (.aload_n 0, 1) := by decide +kernel
theorem dX6_readHead_6 : decode cX6_readHead 6 = .ok (.iconst 0, 1) := by decide +kernel
theorem dX6_readHead_7 : decode cX6_readHead 7 = .ok (.putfield 19, 3) := by decide +kernel
theorem dX6_readHead_10 : decode cX6_readHead 10 = .ok (.aload_n 0, 1) := by decide +kernel
theorem dX6_readHead_11 : decode cX6_readHead 11 = .ok (.ldc 26, 2) := by decide +kernel
theorem dX6_readHead_13 : decode cX6_readHead 13 = .ok (.invokevirtual 28, 3) := by decide +kernel
theorem dX6_readHead_16 : decode cX6_readHead 16 = .ok (.pop, 1) := by decide +kernel
theorem dX6_readHead_17 : decode cX6_readHead 17 = .ok (.aload_n 0, 1) := by decide +kernel
theorem dX6_readHead_18 : decode cX6_readHead 18 = .ok (.aload_n 0, 1) := by decide +kernel
theorem dX6_readHead_19 : decode cX6_readHead 19 = .ok (.iconst 3, 1) := by decide +kernel
theorem dX6_readHead_20 : decode cX6_readHead 20 = .ok (.bipush 12, 2) := by decide +kernel
theorem dX6_readHead_22 : decode cX6_readHead 22 = .ok (.invokevirtual 32, 3) := by decide +kernel
theorem dX6_readHead_25 : decode cX6_readHead 25 = .ok (.putfield 36, 3) := by decide +kernel
theorem dX6_readHead_28 : decode cX6_readHead 28 = .ok (.aload_n 0, 1) := by decide +kernel
theorem dX6_readHead_29 : decode cX6_readHead 29 = .ok (.iconst 0, 1) := by decide +kernel
theorem dX6_readHead_30 : decode cX6_readHead 30 = .ok (.bipush 11, 2) := by decide +kernel
theorem dX6_readHead_32 : decode cX6_readHead 32 = .ok (.invokevirtual 32, 3) := by decide +kernel
theorem dX6_readHead_35 : decode cX6_readHead 35 = .ok (.istore_n 1, 1) := by decide +kernel
theorem dX6_readHead_36 : decode cX6_readHead 36 = .ok (.aload_n 0, 1) := by decide +kernel
theorem dX6_readHead_37 : decode cX6_readHead 37 = .ok (.ldc 39, 2) := by decide +kernel
theorem dX6_readHead_39 : decode cX6_readHead 39 = .ok (.invokevirtual 28, 3) := by decide +kernel
theorem dX6_readHead_42 : decode cX6_readHead 42 = .ok (.istore_n 2, 1) := by decide +kernel
theorem dX6_readHead_43 : decode cX6_readHead 43 = .ok (.aload_n 0, 1) := by decide +kernel
theorem dX6_readHead_44 : decode cX6_readHead 44 = .ok (.iconst 0, 1) := by decide +kernel
theorem dX6_readHead_45 : decode cX6_readHead 45 = .ok (.iconst 2, 1) := by decide +kernel
theorem dX6_readHead_46 : decode cX6_readHead 46 = .ok (.invokevirtual 41, 3) := by decide +kernel
theorem dX6_readHead_49 : decode cX6_readHead 49 = .ok (.istore_n 3, 1) := by decide +kernel
theorem dX6_readHead_50 : decode cX6_readHead 50 = .ok (.iload_n 2, 1) := by decide +kernel
theorem dX6_readHead_51 : decode cX6_readHead 51 = .ok (.iconst 2, 1) := by decide +kernel
theorem dX6_readHead_52 : decode cX6_readHead 52 = .ok (.if_icmp .eq 11, 3) := by decide +kernel
theorem dX6_readHead_55 : decode cX6_readHead 55 = .ok (.iload_n 1, 1) := by decide +kernel
theorem dX6_readHead_56 : decode cX6_readHead 56 = .ok (.aload_n 0, 1) := by decide +kernel
theorem dX6_readHead_57 : decode cX6_readHead 57 = .ok (.getfield 36, 3) := by decide +kernel
theorem dX6_readHead_60 : decode cX6_readHead 60 = .ok (.if_icmp .lt 7, 3) := by decide +kernel
theorem dX6_readHead_63 : decode cX6_readHead 63 = .ok (.iconst 1, 1) := by decide +kernel
theorem dX6_readHead_64 : decode cX6_readHead 64 = .ok (.goto 4, 3) := by decide +kernel
theorem dX6_readHead_67 : decode cX6_readHead 67 = .ok (.iconst 0, 1) := by decide +kernel
theorem dX6_readHead_68 : decode cX6_readHead 68 = .ok (.istore 4, 2) := by decide +kernel
theorem dX6_readHead_70 : decode cX6_readHead 70 = .ok (.aload_n 0, 1) := by decide +kernel
theorem dX6_readHead_71 : decode cX6_readHead 71 = .ok (.iconst 3, 1) := by decide +kernel
theorem dX6_readHead_72 : decode cX6_readHead 72 = .ok (.iload 4, 2) := by decide +kernel
theorem dX6_readHead_74 : decode cX6_readHead 74 = .ok (.ifCond .eq 12, 3) := by decide +kernel
theorem dX6_readHead_77 : decode cX6_readHead 77 = .ok (.iconst 2, 1) := by decide +kernel
theorem dX6_readHead_78 : decode cX6_readHead 78 = .ok (.aload_n 0, 1) := by decide +kernel
theorem dX6_readHead_79 : decode cX6_readHead 79 = .ok (.getfield 36, 3) := by decide +kernel
theorem dX6_readHead_82 : decode cX6_readHead 82 = .ok (.imul, 1) := by decide +kernel
theorem dX6_readHead_83 : decode cX6_readHead 83 = .ok (.goto 8, 3) := by decide +kernel
theorem dX6_readHead_86 : decode cX6_readHead 86 = .ok (.iconst 2, 1) := by decide +kernel
theorem dX6_readHead_87 : decode cX6_readHead 87 = .ok (.iload_n 1, 1) := by decide +kernel
theorem dX6_readHead_88 : decode cX6_readHead 88 = .ok (.imul, 1) := by decide +kernel
theorem dX6_readHead_89 : decode cX6_readHead 89 = .ok (.iload_n 2, 1) := by decide +kernel
theorem dX6_readHead_90 : decode cX6_readHead 90 = .ok (.iadd, 1) := by decide +kernel
theorem dX6_readHead_91 : decode cX6_readHead 91 = .ok (.imul, 1) := by decide +kernel
theorem dX6_readHead_92 : decode cX6_readHead 92 = .ok (.iload_n 3, 1) := by decide +kernel
theorem dX6_readHead_93 : decode cX6_readHead 93 = .ok (.iadd, 1) := by decide +kernel
theorem dX6_readHead_94 : decode cX6_readHead 94 = .ok (.putfield 44, 3) := by decide +kernel
theorem dX6_readHead_97 : decode cX6_readHead 97 = .ok (.return_, 1) := by decide +kernel
theorem dX6_readCommand_0 : decode cX6_readCommand 0 = .ok (.aload_n 0, 1) := by decide +kernel
theorem dX6_readCommand_1 : decode cX6_readCommand 1 = .ok (.aload_n 0, 1) := by decide +kernel
theorem dX6_readCommand_2 : decode cX6_readCommand 2 = .ok (.ldc 47, 2) := by decide +kernel
theorem dX6_readCommand_4 : decode cX6_readCommand 4 = .ok (.invokevirtual 28, 3) := by decide +kernel
theorem dX6_readCommand_7 : decode cX6_readCommand 7 = .ok (.putfield 49, 3) := by decide +kernel
theorem dX6_readCommand_10 : decode cX6_readCommand 10 = .ok (.aload_n 0, 1) := by decide +kernel
theorem dX6_readCommand_11 : decode cX6_readCommand 11 = .ok (.getfield 49, 3) := by decide +kernel
theorem dX6_readCommand_14 : decode cX6_readCommand 14 = .ok (.ifCond .ne 36, 3) := by decide +kernel
theorem dX6_readCommand_17 : decode cX6_readCommand 17 = .ok (.aload_n 0, 1) := by decide +kernel
theorem dX6_readCommand_18 : decode cX6_readCommand 18 = .ok (.aload_n 0, 1) := by decide +kernel
theorem dX6_readCommand_19 : decode cX6_readCommand 19 = .ok (.invokevirtual 52, 3) := by decide +kernel
theorem dX6_readCommand_22 : decode cX6_readCommand 22 = .ok (.putfield 56, 3) := by decide +kernel
theorem dX6_readCommand_25 : decode cX6_readCommand 25 = .ok (.aload_n 0, 1) := by decide +kernel
theorem dX6_readCommand_26 : decode cX6_readCommand 26 = .ok (.ldc 59, 2) := by decide +kernel
theorem dX6_readCommand_28 : decode cX6_readCommand 28 = .ok (.invokevirtual 28, 3) := by decide +kernel
theorem dX6_readCommand_31 : decode cX6_readCommand 31 = .ok (.pop, 1) := by decide +kernel
theorem dX6_readCommand_32 : decode cX6_readCommand 32 = .ok (.aload_n 0, 1) := by decide +kernel
theorem dX6_readCommand_33 : decode cX6_readCommand 33 = .ok (.aload_n 0, 1) := by decide +kernel
theorem dX6_readCommand_34 : decode cX6_readCommand 34 = .ok (.invokevirtual 52, 3) := by decide +kernel
theorem dX6_readCommand_37 : decode cX6_readCommand 37 = .ok (.putfield 61, 3) := by decide +kernel
theorem dX6_readCommand_40 : decode cX6_readCommand 40 = .ok (.aload_n 0, 1) := by decide +kernel
theorem dX6_readCommand_41 : decode cX6_readCommand 41 = .ok (.ldc 64, 2) := by decide +kernel
theorem dX6_readCommand_43 : decode cX6_readCommand 43 = .ok (.invokevirtual 28, 3) := by decide +kernel
theorem dX6_readCommand_46 : decode cX6_readCommand 46 = .ok (.pop, 1) := by decide +kernel
theorem dX6_readCommand_47 : decode cX6_readCommand 47 = .ok (.goto 25, 3) := by decide +kernel
theorem dX6_readCommand_50 : decode cX6_readCommand 50 = .ok (.aload_n 0, 1) := by decide +kernel
theorem dX6_readCommand_51 : decode cX6_readCommand 51 = .ok (.aload_n 0, 1) := by decide +kernel
theorem dX6_readCommand_52 : decode cX6_readCommand 52 = .ok (.iconst 1, 1) := by decide +kernel
theorem dX6_readCommand_53 : decode cX6_readCommand 53 = .ok (.bipush 20, 2) := by decide +kernel
theorem dX6_readCommand_55 : decode cX6_readCommand 55 = .ok (.invokevirtual 32, 3) := by decide +kernel
theorem dX6_readCommand_58 : decode cX6_readCommand 58 = .ok (.putfield 56, 3) := by decide +kernel
theorem dX6_readCommand_61 : decode cX6_readCommand 61 = .ok (.aload_n 0, 1) := by decide +kernel
theorem dX6_readCommand_62 : decode cX6_readCommand 62 = .ok (.aload_n 0, 1) := by decide +kernel
theorem dX6_readCommand_63 : decode cX6_readCommand 63 = .ok (.iconst 1, 1) := by decide +kernel
theorem dX6_readCommand_64 : decode cX6_readCommand 64 = .ok (.bipush 20, 2) := by decide +kernel
theorem dX6_readCommand_66 : decode cX6_readCommand 66 = .ok (.invokevirtual 32, 3) := by decide +kernel
theorem dX6_readCommand_69 : decode cX6_readCommand 69 = .ok (.putfield 61, 3) := by decide +kernel
theorem dX6_readCommand_72 : decode cX6_readCommand 72 = .ok (.return_, 1) := by decide +kernel
theorem dX6_nextSign_0 : decode cX6_nextSign 0 = .ok (.aload_n 0, 1) := by decide +kernel
theorem dX6_nextSign_1 : decode cX6_nextSign 1 = .ok (.invokevirtual 66, 3) := by decide +kernel
theorem dX6_nextSign_4 : decode cX6_nextSign 4 = .ok (.ifCond .eq 34, 3) := by decide +kernel
theorem dX6_nextSign_7 : decode cX6_nextSign 7 = .ok (.aload_n 0, 1) := by decide +kernel
theorem dX6_nextSign_8 : decode cX6_nextSign 8 = .ok (.getfield 23, 3) := by decide +kernel
theorem dX6_nextSign_11 : decode cX6_nextSign 11 = .ok (.ifCond .lt 27, 3) := by decide +kernel
theorem dX6_nextSign_14 : decode cX6_nextSign 14 = .ok (.aload_n 0, 1) := by decide +kernel
theorem dX6_nextSign_15 : decode cX6_nextSign 15 = .ok (.getfield 23, 3) := by decide +kernel
theorem dX6_nextSign_18 : decode cX6_nextSign 18 = .ok (.aload_n 0, 1) := by decide +kernel
theorem dX6_nextSign_19 : decode cX6_nextSign 19 = .ok (.getfield 9, 3) := by decide +kernel
theorem dX6_nextSign_22 : decode cX6_nextSign 22 = .ok (.arraylength, 1) := by decide +kernel
theorem dX6_nextSign_23 : decode cX6_nextSign 23 = .ok (.if_icmp .ge 15, 3) := by decide +kernel
theorem dX6_nextSign_26 : decode cX6_nextSign 26 = .ok (.aload_n 0, 1) := by decide +kernel
theorem dX6_nextSign_27 : decode cX6_nextSign 27 = .ok (.getfield 9, 3) := by decide +kernel
theorem dX6_nextSign_30 : decode cX6_nextSign 30 = .ok (.aload_n 0, 1) := by decide +kernel
theorem dX6_nextSign_31 : decode cX6_nextSign 31 = .ok (.getfield 23, 3) := by decide +kernel
theorem dX6_nextSign_34 : decode cX6_nextSign 34 = .ok (.caload, 1) := by decide +kernel
theorem dX6_nextSign_35 : decode cX6_nextSign 35 = .ok (.goto 4, 3) := by decide +kernel
theorem dX6_nextSign_38 : decode cX6_nextSign 38 = .ok (.iconst (-1), 1) := by decide +kernel
theorem dX6_nextSign_39 : decode cX6_nextSign 39 = .ok (.ireturn, 1) := by decide +kernel
theorem dX6_readOneOf_0 : decode cX6_readOneOf 0 = .ok (.aload_n 0, 1) := by decide +kernel
theorem dX6_readOneOf_1 : decode cX6_readOneOf 1 = .ok (.invokevirtual 70, 3) := by decide +kernel
theorem dX6_readOneOf_4 : decode cX6_readOneOf 4 = .ok (.istore_n 2, 1) := by decide +kernel
theorem dX6_readOneOf_5 : decode cX6_readOneOf 5 = .ok (.iload_n 2, 1) := by decide +kernel
theorem dX6_readOneOf_6 : decode cX6_readOneOf 6 = .ok (.iconst (-1), 1) := by decide +kernel
theorem dX6_readOneOf_7 : decode cX6_readOneOf 7 = .ok (.if_icmp .ne 7, 3) := by decide +kernel
theorem dX6_readOneOf_10 : decode cX6_readOneOf 10 = .ok (.iconst (-1), 1) := by decide +kernel
theorem dX6_readOneOf_11 : decode cX6_readOneOf 11 = .ok (.goto 9, 3) := by decide +kernel
theorem dX6_readOneOf_14 : decode cX6_readOneOf 14 = .ok (.aload_n 1, 1) := by decide +kernel
theorem dX6_readOneOf_15 : decode cX6_readOneOf 15 = .ok (.iload_n 2, 1) := by decide +kernel
theorem dX6_readOneOf_16 : decode cX6_readOneOf 16 = .ok (.i2c, 1) := by decide +kernel
theorem dX6_readOneOf_17 : decode cX6_readOneOf 17 = .ok (.invokevirtual 73, 3) := by decide +kernel
theorem dX6_readOneOf_20 : decode cX6_readOneOf 20 = .ok (.istore_n 3, 1) := by decide +kernel
theorem dX6_readOneOf_21 : decode cX6_readOneOf 21 = .ok (.iload_n 3, 1) := by decide +kernel
theorem dX6_readOneOf_22 : decode cX6_readOneOf 22 = .ok (.ifCond .ge 10, 3) := by decide +kernel
theorem dX6_readOneOf_25 : decode cX6_readOneOf 25 = .ok (.aload_n 0, 1) := by decide +kernel
theorem dX6_readOneOf_26 : decode cX6_readOneOf 26 = .ok (.iconst 1, 1) := by decide +kernel
theorem dX6_readOneOf_27 : decode cX6_readOneOf 27 = .ok (.putfield 19, 3) := by decide +kernel
theorem dX6_readOneOf_30 : decode cX6_readOneOf 30 = .ok (.iconst 0, 1) := by decide +kernel
theorem dX6_readOneOf_31 : decode cX6_readOneOf 31 = .ok (.ireturn, 1) := by decide +kernel
theorem dX6_readOneOf_32 : decode cX6_readOneOf 32 = .ok (.aload_n 0, 1) := by decide +kernel
theorem dX6_readOneOf_33 : decode cX6_readOneOf 33 = .ok (.dup, 1) := by decide +kernel
theorem dX6_readOneOf_34 : decode cX6_readOneOf 34 = .ok (.getfield 23, 3) := by decide +kernel
theorem dX6_readOneOf_37 : decode cX6_readOneOf 37 = .ok (.iconst 1, 1) := by decide +kernel
theorem dX6_readOneOf_38 : decode cX6_readOneOf 38 = .ok (.iadd, 1) := by decide +kernel
theorem dX6_readOneOf_39 : decode cX6_readOneOf 39 = .ok (.putfield 23, 3) := by decide +kernel
theorem dX6_readOneOf_42 : decode cX6_readOneOf 42 = .ok (.iload_n 3, 1) := by decide +kernel
theorem dX6_readOneOf_43 : decode cX6_readOneOf 43 = .ok (.ireturn, 1) := by decide +kernel
theorem dX6_readDigit_0 : decode cX6_readDigit 0 = .ok (.aload_n 0, 1) := by decide +kernel
theorem dX6_readDigit_1 : decode cX6_readDigit 1 = .ok (.invokevirtual 70, 3) := by decide +kernel
theorem dX6_readDigit_4 : decode cX6_readDigit 4 = .ok (.bipush 48, 2) := by decide +kernel
theorem dX6_readDigit_6 : decode cX6_readDigit 6 = .ok (.isub, 1) := by decide +kernel
theorem dX6_readDigit_7 : decode cX6_readDigit 7 = .ok (.istore_n 3, 1) := by decide +kernel
theorem dX6_readDigit_8 : decode cX6_readDigit 8 = .ok (.iload_n 3, 1) := by decide +kernel
theorem dX6_readDigit_9 : decode cX6_readDigit 9 = .ok (.iload_n 1, 1) := by decide +kernel
theorem dX6_readDigit_10 : decode cX6_readDigit 10 = .ok (.if_icmp .lt 8, 3) := by decide +kernel
theorem dX6_readDigit_13 : decode cX6_readDigit 13 = .ok (.iload_n 3, 1) := by decide +kernel
theorem dX6_readDigit_14 : decode cX6_readDigit 14 = .ok (.iload_n 2, 1) := by decide +kernel
theorem dX6_readDigit_15 : decode cX6_readDigit 15 = .ok (.if_icmp .le 10, 3) := by decide +kernel
theorem dX6_readDigit_18 : decode cX6_readDigit 18 = .ok (.aload_n 0, 1) := by decide +kernel
theorem dX6_readDigit_19 : decode cX6_readDigit 19 = .ok (.iconst 1, 1) := by decide +kernel
theorem dX6_readDigit_20 : decode cX6_readDigit 20 = .ok (.putfield 19, 3) := by decide +kernel
theorem dX6_readDigit_23 : decode cX6_readDigit 23 = .ok (.iload_n 1, 1) := by decide +kernel
theorem dX6_readDigit_24 : decode cX6_readDigit 24 = .ok (.ireturn, 1) := by decide +kernel
theorem dX6_readDigit_25 : decode cX6_readDigit 25 = .ok (.aload_n 0, 1) := by decide +kernel
theorem dX6_readDigit_26 : decode cX6_readDigit 26 = .ok (.dup, 1) := by decide +kernel
theorem dX6_readDigit_27 : decode cX6_readDigit 27 = .ok (.getfield 23, 3) := by decide +kernel
theorem dX6_readDigit_30 : decode cX6_readDigit 30 = .ok (.iconst 1, 1) := by decide +kernel
theorem dX6_readDigit_31 : decode cX6_readDigit 31 = .ok (.iadd, 1) := by decide +kernel
theorem dX6_readDigit_32 : decode cX6_readDigit 32 = .ok (.putfield 23, 3) := by decide +kernel
theorem dX6_readDigit_35 : decode cX6_readDigit 35 = .ok (.iload_n 3, 1) := by decide +kernel
theorem dX6_readDigit_36 : decode cX6_readDigit 36 = .ok (.ireturn, 1) := by decide +kernel
theorem dX6_readNumber_0 : decode cX6_readNumber 0 = .ok (.aload_n 0, 1) := by decide +kernel
theorem dX6_readNumber_1 : decode cX6_readNumber 1 = .ok (.iload_n 1, 1) := by decide +kernel
theorem dX6_readNumber_2 : decode cX6_readNumber 2 = .ok (.bipush 10, 2) := by decide +kernel
theorem dX6_readNumber_4 : decode cX6_readNumber 4 = .ok (.idiv, 1) := by decide +kernel
theorem dX6_readNumber_5 : decode cX6_readNumber 5 = .ok (.iload_n 2, 1) := by decide +kernel
theorem dX6_readNumber_6 : decode cX6_readNumber 6 = .ok (.bipush 10, 2) := by decide +kernel
theorem dX6_readNumber_8 : decode cX6_readNumber 8 = .ok (.idiv, 1) := by decide +kernel
theorem dX6_readNumber_9 : decode cX6_readNumber 9 = .ok (.invokevirtual 41, 3) := by decide +kernel
theorem dX6_readNumber_12 : decode cX6_readNumber 12 = .ok (.istore_n 3, 1) := by decide +kernel
theorem dX6_readNumber_13 : decode cX6_readNumber 13 = .ok (.aload_n 0, 1) := by decide +kernel
theorem dX6_readNumber_14 : decode cX6_readNumber 14 = .ok (.iconst 0, 1) := by decide +kernel
theorem dX6_readNumber_15 : decode cX6_readNumber 15 = .ok (.iload_n 1, 1) := by decide +kernel
theorem dX6_readNumber_16 : decode cX6_readNumber 16 = .ok (.bipush 10, 2) := by decide +kernel
theorem dX6_readNumber_18 : decode cX6_readNumber 18 = .ok (.iload_n 3, 1) := by decide +kernel
theorem dX6_readNumber_19 : decode cX6_readNumber 19 = .ok (.imul, 1) := by decide +kernel
theorem dX6_readNumber_20 : decode cX6_readNumber 20 = .ok (.isub, 1) := by decide +kernel
theorem dX6_readNumber_21 : decode cX6_readNumber 21 = .ok (.invokestatic 79, 3) := by decide +kernel
theorem dX6_readNumber_24 : decode cX6_readNumber 24 = .ok (.bipush 9, 2) := by decide +kernel
theorem dX6_readNumber_26 : decode cX6_readNumber 26 = .ok (.iload_n 2, 1) := by decide +kernel
theorem dX6_readNumber_27 : decode cX6_readNumber 27 = .ok (.bipush 10, 2) := by decide +kernel
theorem dX6_readNumber_29 : decode cX6_readNumber 29 = .ok (.iload_n 3, 1) := by decide +kernel
theorem dX6_readNumber_30 : decode cX6_readNumber 30 = .ok (.imul, 1) := by decide +kernel
theorem dX6_readNumber_31 : decode cX6_readNumber 31 = .ok (.isub, 1) := by decide +kernel
theorem dX6_readNumber_32 : decode cX6_readNumber 32 = .ok (.invokestatic 84, 3) := by decide +kernel
theorem dX6_readNumber_35 : decode cX6_readNumber 35 = .ok (.invokevirtual 41, 3) := by decide +kernel
theorem dX6_readNumber_38 : decode cX6_readNumber 38 = .ok (.istore 4, 2) := by decide +kernel
theorem dX6_readNumber_40 : decode cX6_readNumber 40 = .ok (.bipush 10, 2) := by decide +kernel
theorem dX6_readNumber_42 : decode cX6_readNumber 42 = .ok (.iload_n 3, 1) := by decide +kernel
theorem dX6_readNumber_43 : decode cX6_readNumber 43 = .ok (.imul, 1) := by decide +kernel
theorem dX6_readNumber_44 : decode cX6_readNumber 44 = .ok (.iload 4, 2) := by decide +kernel
theorem dX6_readNumber_46 : decode cX6_readNumber 46 = .ok (.iadd, 1) := by decide +kernel
theorem dX6_readNumber_47 : decode cX6_readNumber 47 = .ok (.ireturn, 1) := by decide +kernel
theorem dX6_readCoins_0 : decode cX6_readCoins 0 = .ok (.iconst 0, 1) := by decide +kernel
theorem dX6_readCoins_1 : decode cX6_readCoins 1 = .ok (.istore_n 1, 1) := by decide +kernel
theorem dX6_readCoins_2 : decode cX6_readCoins 2 = .ok (.iconst 0, 1) := by decide +kernel
theorem dX6_readCoins_3 : decode cX6_readCoins 3 = .ok (.istore_n 2, 1) := by decide +kernel
theorem dX6_readCoins_4 : decode cX6_readCoins 4 = .ok (.iload_n 2, 1) := by decide +kernel
theorem dX6_readCoins_5 : decode cX6_readCoins 5 = .ok (.bipush 12, 2) := by decide +kernel
theorem dX6_readCoins_7 : decode cX6_readCoins 7 = .ok (.if_icmp .ge 36, 3) := by decide +kernel
theorem dX6_readCoins_10 : decode cX6_readCoins 10 = .ok (.aload_n 0, 1) := by decide +kernel
theorem dX6_readCoins_11 : decode cX6_readCoins 11 = .ok (.invokevirtual 70, 3) := by decide +kernel
theorem dX6_readCoins_14 : decode cX6_readCoins 14 = .ok (.bipush 97, 2) := by decide +kernel
theorem dX6_readCoins_16 : decode cX6_readCoins 16 = .ok (.iload_n 2, 1) := by decide +kernel
theorem dX6_readCoins_17 : decode cX6_readCoins 17 = .ok (.iadd, 1) := by decide +kernel
theorem dX6_readCoins_18 : decode cX6_readCoins 18 = .ok (.if_icmp .ne 19, 3) := by decide +kernel
theorem dX6_readCoins_21 : decode cX6_readCoins 21 = .ok (.iload_n 1, 1) := by decide +kernel
theorem dX6_readCoins_22 : decode cX6_readCoins 22 = .ok (.iconst 1, 1) := by decide +kernel
theorem dX6_readCoins_23 : decode cX6_readCoins 23 = .ok (.iload_n 2, 1) := by decide +kernel
theorem dX6_readCoins_24 : decode cX6_readCoins 24 = .ok (.ishl, 1) := by decide +kernel
theorem dX6_readCoins_25 : decode cX6_readCoins 25 = .ok (.ior, 1) := by decide +kernel
theorem dX6_readCoins_26 : decode cX6_readCoins 26 = .ok (.istore_n 1, 1) := by decide +kernel
theorem dX6_readCoins_27 : decode cX6_readCoins 27 = .ok (.aload_n 0, 1) := by decide +kernel
theorem dX6_readCoins_28 : decode cX6_readCoins 28 = .ok (.dup, 1) := by decide +kernel
theorem dX6_readCoins_29 : decode cX6_readCoins 29 = .ok (.getfield 23, 3) := by decide +kernel
theorem dX6_readCoins_32 : decode cX6_readCoins 32 = .ok (.iconst 1, 1) := by decide +kernel
theorem dX6_readCoins_33 : decode cX6_readCoins 33 = .ok (.iadd, 1) := by decide +kernel
theorem dX6_readCoins_34 : decode cX6_readCoins 34 = .ok (.putfield 23, 3) := by decide +kernel
theorem dX6_readCoins_37 : decode cX6_readCoins 37 = .ok (.iinc 2 1, 3) := by decide +kernel
theorem dX6_readCoins_40 : decode cX6_readCoins 40 = .ok (.goto (-36), 3) := by decide +kernel
theorem dX6_readCoins_43 : decode cX6_readCoins 43 = .ok (.iload_n 1, 1) := by decide +kernel
theorem dX6_readCoins_44 : decode cX6_readCoins 44 = .ok (.ireturn, 1) := by decide +kernel
theorem dX7_init_0 : decode cX7_init 0 = .ok (.aload_n 0, 1) := by decide +kernel
theorem dX7_init_1 : decode cX7_init 1 = .ok (.invokespecial 1, 3) := by decide +kernel
theorem dX7_init_4 : decode cX7_init 4 = .ok (.aload_n 0, 1) := by decide +kernel
theorem dX7_init_5 : decode cX7_init 5 = .ok (.new 7, 3) := by decide +kernel
theorem dX7_init_8 : decode cX7_init 8 = .ok (.dup, 1) := by decide +kernel
theorem dX7_init_9 : decode cX7_init 9 = .ok (.invokespecial 9, 3) := by decide +kernel
theorem dX7_init_12 : decode cX7_init 12 = .ok (.putfield 10, 3) := by decide +kernel
theorem dX7_init_15 : decode cX7_init 15 = .ok (.aload_n 0, 1) := by decide +kernel
theorem dX7_init_16 : decode cX7_init 16 = .ok (.new 16, 3) := by decide +kernel
theorem dX7_init_19 : decode cX7_init 19 = .ok (.dup, 1) := by decide +kernel
theorem dX7_init_20 : decode cX7_init 20 = .ok (.invokespecial 18, 3) := by decide +kernel
theorem dX7_init_23 : decode cX7_init 23 = .ok (.putfield 19, 3) := by decide +kernel
theorem dX7_init_26 : decode cX7_init 26 = .ok (.aload_n 0, 1) := by decide +kernel
theorem dX7_init_27 : decode cX7_init 27 = .ok (.new 16, 3) := by decide +kernel
theorem dX7_init_30 : decode cX7_init 30 = .ok (.dup, 1) := by decide +kernel
theorem dX7_init_31 : decode cX7_init 31 = .ok (.invokespecial 18, 3) := by decide +kernel
theorem dX7_init_34 : decode cX7_init 34 = .ok (.putfield 23, 3) := by decide +kernel
theorem dX7_init_37 : decode cX7_init 37 = .ok (.aload_n 0, 1) := by decide +kernel
theorem dX7_init_38 : decode cX7_init 38 = .ok (.new 26, 3) := by decide +kernel
theorem dX7_init_41 : decode cX7_init 41 = .ok (.dup, 1) := by decide +kernel
theorem dX7_init_42 : decode cX7_init 42 = .ok (.invokespecial 28, 3) := by decide +kernel
theorem dX7_init_45 : decode cX7_init 45 = .ok (.putfield 29, 3) := by decide +kernel
theorem dX7_init_48 : decode cX7_init 48 = .ok (.aload_n 0, 1) := by decide +kernel
theorem dX7_init_49 : decode cX7_init 49 = .ok (.new 33, 3) := by decide +kernel
theorem dX7_init_52 : decode cX7_init 52 = .ok (.dup, 1) := by decide +kernel
theorem dX7_init_53 : decode cX7_init 53 = .ok (.invokespecial 35, 3) := by decide +kernel
theorem dX7_init_56 : decode cX7_init 56 = .ok (.putfield 36, 3) := by decide +kernel
theorem dX7_init_59 : decode cX7_init 59 = .ok (.aload_n 0, 1) := by decide +kernel
theorem dX7_init_60 : decode cX7_init 60 = .ok (.new 33, 3) := by decide +kernel
theorem dX7_init_63 : decode cX7_init 63 = .ok (.dup, 1) := by decide +kernel
theorem dX7_init_64 : decode cX7_init 64 = .ok (.invokespecial 35, 3) := by decide +kernel
theorem dX7_init_67 : decode cX7_init 67 = .ok (.putfield 40, 3) := by decide +kernel
theorem dX7_init_70 : decode cX7_init 70 = .ok (.aload_n 0, 1) := by decide +kernel
theorem dX7_init_71 : decode cX7_init 71 = .ok (.new 43, 3) := by decide +kernel
theorem dX7_init_74 : decode cX7_init 74 = .ok (.dup, 1) := by decide +kernel
theorem dX7_init_75 : decode cX7_init 75 = .ok (.invokespecial 45, 3) := by decide +kernel
theorem dX7_init_78 : decode cX7_init 78 = .ok (.putfield 46, 3) := by decide +kernel
theorem dX7_init_81 : decode cX7_init 81 = .ok (.aload_n 0, 1) := by decide +kernel
theorem dX7_init_82 : decode cX7_init 82 = .ok (.invokestatic 50, 3) := by decide +kernel
theorem dX7_init_85 : decode cX7_init 85 = .ok (.putfield 54, 3) := by decide +kernel
theorem dX7_init_88 : decode cX7_init 88 = .ok (.aload_n 0, 1) := by decide +kernel
theorem dX7_init_89 : decode cX7_init 89 = .ok (.invokestatic 58, 3) := by decide +kernel
theorem dX7_init_92 : decode cX7_init 92 = .ok (.putfield 61, 3) := by decide +kernel
theorem dX7_init_95 : decode cX7_init 95 = .ok (.aload_n 0, 1) := by decide +kernel
theorem dX7_init_96 : decode cX7_init 96 = .ok (.getfield 19, 3) := by decide +kernel
theorem dX7_init_99 : decode cX7_init 99 = .ok (.invokevirtual 64, 3) := by decide +kernel
theorem dX7_init_102 : decode cX7_init 102 = .ok (.return_, 1) := by decide +kernel
theorem dX7_append_0 : decode cX7_append 0 = .ok (.iload_n 1, 1) := by decide +kernel
theorem dX7_append_1 : decode cX7_append 1 = .ok (.ifCond .lt 10, 3) := by decide +kernel
theorem dX7_append_4 : decode cX7_append 4 = .ok (.iload_n 1, 1) := by decide +kernel
theorem dX7_append_5 : decode cX7_append 5 = .ok (.sipush 255, 3) := by decide +kernel
theorem dX7_append_8 : decode cX7_append 8 = .ok (.if_icmp .le 13, 3) := by decide +kernel
theorem dX7_append_11 : decode cX7_append 11 = .ok (.new 67, 3) := by decide +kernel
theorem dX7_append_14 : decode cX7_append 14 = .ok (.dup, 1) := by decide +kernel
theorem dX7_append_15 : decode cX7_append 15 = .ok (.ldc 69, 2) := by decide +kernel
theorem dX7_append_17 : decode cX7_append 17 = .ok (.invokespecial 71, 3) := by decide +kernel
theorem dX7_append_20 : decode cX7_append 20 = .ok (.athrow, 1) := by decide +kernel
theorem dX7_append_21 : decode cX7_append 21 = .ok (.aload_n 0, 1) := by decide +kernel
theorem dX7_append_22 : decode cX7_append 22 = .ok (.getfield 10, 3) := by decide +kernel
theorem dX7_append_25 : decode cX7_append 25 = .ok (.getfield 74, 3) := by decide +kernel
theorem dX7_append_28 : decode cX7_append 28 = .ok (.bipush 120, 2) := by decide +kernel
theorem dX7_append_30 : decode cX7_append 30 = .ok (.if_icmp .lt 13, 3) := by decide +kernel
theorem dX7_append_33 : decode cX7_append 33 = .ok (.new 78, 3) := by decide +kernel
theorem dX7_append_36 : decode cX7_append 36 = .ok (.dup, 1) := by decide +kernel
theorem dX7_append_37 : decode cX7_append 37 = .ok (.ldc 80, 2) := by decide +kernel
theorem dX7_append_39 : decode cX7_append 39 = .ok (.invokespecial 82, 3) := by decide +kernel
theorem dX7_append_42 : decode cX7_append 42 = .ok (.athrow, 1) := by decide +kernel
theorem dX7_append_43 : decode cX7_append 43 = .ok (.aload_n 0, 1) := by decide +kernel
theorem dX7_append_44 : decode cX7_append 44 = .ok (.getfield 10, 3) := by decide +kernel
theorem dX7_append_47 : decode cX7_append 47 = .ok (.iload_n 1, 1) := by decide +kernel
theorem dX7_append_48 : decode cX7_append 48 = .ok (.i2c, 1) := by decide +kernel
theorem dX7_append_49 : decode cX7_append 49 = .ok (.invokevirtual 83, 3) := by decide +kernel
theorem dX7_append_52 : decode cX7_append 52 = .ok (.aload_n 0, 1) := by decide +kernel
theorem dX7_append_53 : decode cX7_append 53 = .ok (.getfield 10, 3) := by decide +kernel
theorem dX7_append_56 : decode cX7_append 56 = .ok (.getfield 74, 3) := by decide +kernel
theorem dX7_append_59 : decode cX7_append 59 = .ok (.ireturn, 1) := by decide +kernel
theorem dX7_clearText_0 : decode cX7_clearText 0 = .ok (.aload_n 0, 1) := by decide +kernel
theorem dX7_clearText_1 : decode cX7_clearText 1 = .ok (.getfield 10, 3) := by decide +kernel
theorem dX7_clearText_4 : decode cX7_clearText 4 = .ok (.getfield 74, 3) := by decide +kernel
theorem dX7_clearText_7 : decode cX7_clearText 7 = .ok (.istore_n 1, 1) := by decide +kernel
theorem dX7_clearText_8 : decode cX7_clearText 8 = .ok (.aload_n 0, 1) := by decide +kernel
theorem dX7_clearText_9 : decode cX7_clearText 9 = .ok (.getfield 10, 3) := by decide +kernel
theorem dX7_clearText_12 : decode cX7_clearText 12 = .ok (.iconst 0, 1) := by decide +kernel
theorem dX7_clearText_13 : decode cX7_clearText 13 = .ok (.putfield 74, 3) := by decide +kernel
theorem dX7_clearText_16 : decode cX7_clearText 16 = .ok (.iload_n 1, 1) := by decide +kernel
theorem dX7_clearText_17 : decode cX7_clearText 17 = .ok (.ireturn, 1) := by decide +kernel
theorem dX7_errorPosition_0 : decode cX7_errorPosition 0 = .ok (.aload_n 0, 1) := by decide +kernel
theorem dX7_errorPosition_1 : decode cX7_errorPosition 1 = .ok (.getfield 10, 3) := by decide +kernel
theorem dX7_errorPosition_4 : decode cX7_errorPosition 4 = .ok (.invokevirtual 87, 3) := by decide +kernel
theorem dX7_errorPosition_7 : decode cX7_errorPosition 7 = .ok (.iconst 0, 1) := by decide +kernel
theorem dX7_errorPosition_8 : decode cX7_errorPosition 8 = .ok (.istore_n 1, 1) := by decide +kernel
theorem dX7_errorPosition_9 : decode cX7_errorPosition 9 = .ok (.iload_n 1, 1) := by decide +kernel
theorem dX7_errorPosition_10 : decode cX7_errorPosition 10 = .ok (.bipush 120, 2) := by decide +kernel
theorem dX7_errorPosition_12 : decode cX7_errorPosition 12 = .ok (.if_icmp .ge 26, 3) := by decide +kernel
theorem dX7_errorPosition_15 : decode cX7_errorPosition 15 = .ok (.aload_n 0, 1) := by decide +kernel
theorem dX7_errorPosition_16 : decode cX7_errorPosition 16 = .ok (.getfield 10, 3) := by decide +kernel
theorem dX7_errorPosition_19 : decode cX7_errorPosition 19 = .ok (.invokevirtual 90, 3) := by decide +kernel
theorem dX7_errorPosition_22 : decode cX7_errorPosition 22 = .ok (.ifCond .eq 16, 3) := by decide +kernel
theorem dX7_errorPosition_25 : decode cX7_errorPosition 25 = .ok (.aload_n 0, 1) := by decide +kernel
theorem dX7_errorPosition_26 : decode cX7_errorPosition 26 = .ok (.getfield 10, 3) := by decide +kernel
theorem dX7_errorPosition_29 : decode cX7_errorPosition 29 = .ok (.invokevirtual 94, 3) := by decide +kernel
theorem dX7_errorPosition_32 : decode cX7_errorPosition 32 = .ok (.iinc 1 1, 3) := by decide +kernel
theorem dX7_errorPosition_35 : decode cX7_errorPosition 35 = .ok (.goto (-26), 3) := by decide +kernel
theorem dX7_errorPosition_38 : decode cX7_errorPosition 38 = .ok (.aload_n 0, 1) := by decide +kernel
theorem dX7_errorPosition_39 : decode cX7_errorPosition 39 = .ok (.getfield 10, 3) := by decide +kernel
theorem dX7_errorPosition_42 : decode cX7_errorPosition 42 = .ok (.getfield 97, 3) := by decide +kernel
theorem dX7_errorPosition_45 : decode cX7_errorPosition 45 = .ok (.ifCond .eq 13, 3) := by decide +kernel
theorem dX7_errorPosition_48 : decode cX7_errorPosition 48 = .ok (.aload_n 0, 1) := by decide +kernel
theorem dX7_errorPosition_49 : decode cX7_errorPosition 49 = .ok (.getfield 10, 3) := by decide +kernel
theorem dX7_errorPosition_52 : decode cX7_errorPosition 52 = .ok (.getfield 101, 3) := by decide +kernel
theorem dX7_errorPosition_55 : decode cX7_errorPosition 55 = .ok (.goto 4, 3) := by decide +kernel
theorem dX7_errorPosition_58 : decode cX7_errorPosition 58 = .ok (.iconst (-1), 1) := by decide +kernel
theorem dX7_errorPosition_59 : decode cX7_errorPosition 59 = .ok (.ireturn, 1) := by decide +kernel
theorem dX7_load_0 : decode cX7_load 0 = .ok (.aload_n 0, 1) := by decide +kernel
theorem dX7_load_1 : decode cX7_load 1 = .ok (.invokevirtual 104, 3) := by decide +kernel
theorem dX7_load_4 : decode cX7_load 4 = .ok (.iconst (-1), 1) := by decide +kernel
theorem dX7_load_5 : decode cX7_load 5 = .ok (.if_icmp .eq 13, 3) := by decide +kernel
theorem dX7_load_8 : decode cX7_load 8 = .ok (.new 78, 3) := by decide +kernel
theorem dX7_load_11 : decode cX7_load 11 = .ok (.dup, 1) := by decide +kernel
theorem dX7_load_12 : decode cX7_load 12 = .ok (.ldc 108, 2) := by decide +kernel
theorem dX7_load_14 : decode cX7_load 14 = .ok (.invokespecial 82, 3) := by decide +kernel
theorem dX7_load_17 : decode cX7_load 17 = .ok (.athrow, 1) := by decide +kernel
theorem dX7_load_18 : decode cX7_load 18 = .ok (.aload_n 0, 1) := by decide +kernel
theorem dX7_load_19 : decode cX7_load 19 = .ok (.getfield 29, 3) := by decide +kernel
theorem dX7_load_22 : decode cX7_load 22 = .ok (.invokevirtual 110, 3) := by decide +kernel
theorem dX7_load_25 : decode cX7_load 25 = .ok (.aload_n 0, 1) := by decide +kernel
theorem dX7_load_26 : decode cX7_load 26 = .ok (.getfield 36, 3) := by decide +kernel
theorem dX7_load_29 : decode cX7_load 29 = .ok (.iconst 0, 1) := by decide +kernel
theorem dX7_load_30 : decode cX7_load 30 = .ok (.putfield 113, 3) := by decide +kernel
theorem dX7_load_33 : decode cX7_load 33 = .ok (.aload_n 0, 1) := by decide +kernel
theorem dX7_load_34 : decode cX7_load 34 = .ok (.getfield 40, 3) := by decide +kernel
theorem dX7_load_37 : decode cX7_load 37 = .ok (.iconst 0, 1) := by decide +kernel
theorem dX7_load_38 : decode cX7_load 38 = .ok (.putfield 113, 3) := by decide +kernel
theorem dX7_load_41 : decode cX7_load 41 = .ok (.aload_n 0, 1) := by decide +kernel
theorem dX7_load_42 : decode cX7_load 42 = .ok (.getfield 19, 3) := by decide +kernel
theorem dX7_load_45 : decode cX7_load 45 = .ok (.invokevirtual 64, 3) := by decide +kernel
theorem dX7_load_48 : decode cX7_load 48 = .ok (.aload_n 0, 1) := by decide +kernel
theorem dX7_load_49 : decode cX7_load 49 = .ok (.getfield 10, 3) := by decide +kernel
theorem dX7_load_52 : decode cX7_load 52 = .ok (.invokevirtual 87, 3) := by decide +kernel
theorem dX7_load_55 : decode cX7_load 55 = .ok (.aload_n 0, 1) := by decide +kernel
theorem dX7_load_56 : decode cX7_load 56 = .ok (.getfield 19, 3) := by decide +kernel
theorem dX7_load_59 : decode cX7_load 59 = .ok (.aload_n 0, 1) := by decide +kernel
theorem dX7_load_60 : decode cX7_load 60 = .ok (.getfield 10, 3) := by decide +kernel
theorem dX7_load_63 : decode cX7_load 63 = .ok (.getfield 116, 3) := by decide +kernel
theorem dX7_load_66 : decode cX7_load 66 = .ok (.aload_n 0, 1) := by decide +kernel
theorem dX7_load_67 : decode cX7_load 67 = .ok (.getfield 10, 3) := by decide +kernel
theorem dX7_load_70 : decode cX7_load 70 = .ok (.getfield 119, 3) := by decide +kernel
theorem dX7_load_73 : decode cX7_load 73 = .ok (.invokevirtual 122, 3) := by decide +kernel
theorem dX7_load_76 : decode cX7_load 76 = .ok (.iconst 0, 1) := by decide +kernel
theorem dX7_load_77 : decode cX7_load 77 = .ok (.istore_n 1, 1) := by decide +kernel
theorem dX7_load_78 : decode cX7_load 78 = .ok (.iconst 0, 1) := by decide +kernel
theorem dX7_load_79 : decode cX7_load 79 = .ok (.istore_n 2, 1) := by decide +kernel
theorem dX7_load_80 : decode cX7_load 80 = .ok (.iload_n 2, 1) := by decide +kernel
theorem dX7_load_81 : decode cX7_load 81 = .ok (.bipush 120, 2) := by decide +kernel
theorem dX7_load_83 : decode cX7_load 83 = .ok (.if_icmp .ge 36, 3) := by decide +kernel
theorem dX7_load_86 : decode cX7_load 86 = .ok (.aload_n 0, 1) := by decide +kernel
theorem dX7_load_87 : decode cX7_load 87 = .ok (.getfield 10, 3) := by decide +kernel
theorem dX7_load_90 : decode cX7_load 90 = .ok (.invokevirtual 90, 3) := by decide +kernel
theorem dX7_load_93 : decode cX7_load 93 = .ok (.ifCond .eq 26, 3) := by decide +kernel
theorem dX7_load_96 : decode cX7_load 96 = .ok (.aload_n 0, 1) := by decide +kernel
theorem dX7_load_97 : decode cX7_load 97 = .ok (.getfield 10, 3) := by decide +kernel
theorem dX7_load_100 : decode cX7_load 100 = .ok (.invokevirtual 94, 3) := by decide +kernel
theorem dX7_load_103 : decode cX7_load 103 = .ok (.aload_n 0, 1) := by decide +kernel
theorem dX7_load_104 : decode cX7_load 104 = .ok (.invokevirtual 126, 3) := by decide +kernel
theorem dX7_load_107 : decode cX7_load 107 = .ok (.ifCond .ne 6, 3) := by decide +kernel
theorem dX7_load_110 : decode cX7_load 110 = .ok (.iinc 1 1, 3) := by decide +kernel
theorem dX7_load_113 : decode cX7_load 113 = .ok (.iinc 2 1, 3) := by decide +kernel
theorem dX7_load_116 : decode cX7_load 116 = .ok (.goto (-36), 3) := by decide +kernel
theorem dX7_load_119 : decode cX7_load 119 = .ok (.iload_n 1, 1) := by decide +kernel
theorem dX7_load_120 : decode cX7_load 120 = .ok (.ireturn, 1) := by decide +kernel
theorem dX7_obeyText_0 : decode cX7_obeyText 0 = .ok (.aload_n 0, 1) := by decide +kernel
theorem dX7_obeyText_1 : decode cX7_obeyText 1 = .ok (.getfield 10, 3) := by decide +kernel
theorem dX7_obeyText_4 : decode cX7_obeyText 4 = .ok (.getfield 129, 3) := by decide +kernel
theorem dX7_obeyText_7 : decode cX7_obeyText 7 = .ok (.iconst 1, 1) := by decide +kernel
theorem dX7_obeyText_8 : decode cX7_obeyText 8 = .ok (.if_icmp .ne 25, 3) := by decide +kernel
theorem dX7_obeyText_11 : decode cX7_obeyText 11 = .ok (.aload_n 0, 1) := by decide +kernel
theorem dX7_obeyText_12 : decode cX7_obeyText 12 = .ok (.getfield 19, 3) := by decide +kernel
theorem dX7_obeyText_15 : decode cX7_obeyText 15 = .ok (.aload_n 0, 1) := by decide +kernel
theorem dX7_obeyText_16 : decode cX7_obeyText 16 = .ok (.getfield 10, 3) := by decide +kernel
theorem dX7_obeyText_19 : decode cX7_obeyText 19 = .ok (.getfield 132, 3) := by decide +kernel
theorem dX7_obeyText_22 : decode cX7_obeyText 22 = .ok (.aload_n 0, 1) := by decide +kernel
theorem dX7_obeyText_23 : decode cX7_obeyText 23 = .ok (.getfield 10, 3) := by decide +kernel
theorem dX7_obeyText_26 : decode cX7_obeyText 26 = .ok (.getfield 135, 3) := by decide +kernel
theorem dX7_obeyText_29 : decode cX7_obeyText 29 = .ok (.invokevirtual 138, 3) := by decide +kernel
theorem dX7_obeyText_32 : decode cX7_obeyText 32 = .ok (.ireturn, 1) := by decide +kernel
theorem dX7_obeyText_33 : decode cX7_obeyText 33 = .ok (.aload_n 0, 1) := by decide +kernel
theorem dX7_obeyText_34 : decode cX7_obeyText 34 = .ok (.getfield 19, 3) := by decide +kernel
theorem dX7_obeyText_37 : decode cX7_obeyText 37 = .ok (.aload_n 0, 1) := by decide +kernel
theorem dX7_obeyText_38 : decode cX7_obeyText 38 = .ok (.getfield 10, 3) := by decide +kernel
theorem dX7_obeyText_41 : decode cX7_obeyText 41 = .ok (.getfield 132, 3) := by decide +kernel
theorem dX7_obeyText_44 : decode cX7_obeyText 44 = .ok (.aload_n 0, 1) := by decide +kernel
theorem dX7_obeyText_45 : decode cX7_obeyText 45 = .ok (.getfield 10, 3) := by decide +kernel
theorem dX7_obeyText_48 : decode cX7_obeyText 48 = .ok (.getfield 135, 3) := by decide +kernel
theorem dX7_obeyText_51 : decode cX7_obeyText 51 = .ok (.invokevirtual 142, 3) := by decide +kernel
theorem dX7_obeyText_54 : decode cX7_obeyText 54 = .ok (.ireturn, 1) := by decide +kernel
theorem dX7_about_0 : decode cX7_about 0 = .ok (.iload_n 1, 1) := by decide +kernel
theorem dX7_about_1 : decode cX7_about 1 = .ok (.tableswitch 126 0 8 #[51, 59, 67, 78, 86, 94, 102, 110, 118], 51) := by decide +kernel
theorem dX7_about_52 : decode cX7_about 52 = .ok (.aload_n 0, 1) := by decide +kernel
theorem dX7_about_53 : decode cX7_about 53 = .ok (.getfield 19, 3) := by decide +kernel
theorem dX7_about_56 : decode cX7_about 56 = .ok (.getfield 145, 3) := by decide +kernel
theorem dX7_about_59 : decode cX7_about 59 = .ok (.ireturn, 1) := by decide +kernel
theorem dX7_about_60 : decode cX7_about 60 = .ok (.aload_n 0, 1) := by decide +kernel
theorem dX7_about_61 : decode cX7_about 61 = .ok (.getfield 19, 3) := by decide +kernel
theorem dX7_about_64 : decode cX7_about 64 = .ok (.invokevirtual 146, 3) := by decide +kernel
theorem dX7_about_67 : decode cX7_about 67 = .ok (.ireturn, 1) := by decide +kernel
theorem dX7_about_68 : decode cX7_about 68 = .ok (.aload_n 0, 1) := by decide +kernel
theorem dX7_about_69 : decode cX7_about 69 = .ok (.getfield 19, 3) := by decide +kernel
theorem dX7_about_72 : decode cX7_about 72 = .ok (.getfield 149, 3) := by decide +kernel
theorem dX7_about_75 : decode cX7_about 75 = .ok (.invokevirtual 153, 3) := by decide +kernel
theorem dX7_about_78 : decode cX7_about 78 = .ok (.ireturn, 1) := by decide +kernel
theorem dX7_about_79 : decode cX7_about 79 = .ok (.aload_n 0, 1) := by decide +kernel
theorem dX7_about_80 : decode cX7_about 80 = .ok (.getfield 19, 3) := by decide +kernel
theorem dX7_about_83 : decode cX7_about 83 = .ok (.getfield 158, 3) := by decide +kernel
theorem dX7_about_86 : decode cX7_about 86 = .ok (.ireturn, 1) := by decide +kernel
theorem dX7_about_87 : decode cX7_about 87 = .ok (.aload_n 0, 1) := by decide +kernel
theorem dX7_about_88 : decode cX7_about 88 = .ok (.getfield 19, 3) := by decide +kernel
theorem dX7_about_91 : decode cX7_about 91 = .ok (.getfield 161, 3) := by decide +kernel
theorem dX7_about_94 : decode cX7_about 94 = .ok (.ireturn, 1) := by decide +kernel
theorem dX7_about_95 : decode cX7_about 95 = .ok (.aload_n 0, 1) := by decide +kernel
theorem dX7_about_96 : decode cX7_about 96 = .ok (.getfield 19, 3) := by decide +kernel
theorem dX7_about_99 : decode cX7_about 99 = .ok (.getfield 164, 3) := by decide +kernel
theorem dX7_about_102 : decode cX7_about 102 = .ok (.ireturn, 1) := by decide +kernel
theorem dX7_about_103 : decode cX7_about 103 = .ok (.aload_n 0, 1) := by decide +kernel
theorem dX7_about_104 : decode cX7_about 104 = .ok (.getfield 19, 3) := by decide +kernel
theorem dX7_about_107 : decode cX7_about 107 = .ok (.invokevirtual 167, 3) := by decide +kernel
theorem dX7_about_110 : decode cX7_about 110 = .ok (.ireturn, 1) := by decide +kernel
theorem dX7_about_111 : decode cX7_about 111 = .ok (.aload_n 0, 1) := by decide +kernel
theorem dX7_about_112 : decode cX7_about 112 = .ok (.getfield 19, 3) := by decide +kernel
theorem dX7_about_115 : decode cX7_about 115 = .ok (.getfield 170, 3) := by decide +kernel
theorem dX7_about_118 : decode cX7_about 118 = .ok (.ireturn, 1) := by decide +kernel
theorem dX7_about_119 : decode cX7_about 119 = .ok (.aload_n 0, 1) := by decide +kernel
theorem dX7_about_120 : decode cX7_about 120 = .ok (.getfield 19, 3) := by decide +kernel
end
section
theorem dX7_about_123 : decode cX7_about 123 = .ok (.getfield 173, 3) := by decide +kernel
theorem dX7_about_126 : decode cX7_about 126 = .ok (.ireturn, 1) := by decide +kernel
theorem dX7_about_127 : decode cX7_about 127 = .ok (.new 67, 3) := by decide +kernel
theorem dX7_about_130 : decode cX7_about 130 = .ok (.dup, 1) := by decide +kernel
theorem dX7_about_131 : decode cX7_about 131 = .ok (.ldc 176, 2) := by decide +kernel
theorem dX7_about_133 : decode cX7_about 133 = .ok (.invokespecial 71, 3) := by decide +kernel
theorem dX7_about_136 : decode cX7_about 136 = .ok (.athrow, 1) := by decide +kernel
theorem dX7_coin_0 : decode cX7_coin 0 = .ok (.aload_n 0, 1) := by decide +kernel
theorem dX7_coin_1 : decode cX7_coin 1 = .ok (.getfield 19, 3) := by decide +kernel
theorem dX7_coin_4 : decode cX7_coin 4 = .ok (.iload_n 1, 1) := by decide +kernel
theorem dX7_coin_5 : decode cX7_coin 5 = .ok (.invokevirtual 178, 3) := by decide +kernel
theorem dX7_coin_8 : decode cX7_coin 8 = .ok (.ifCond .ne 13, 3) := by decide +kernel
theorem dX7_coin_11 : decode cX7_coin 11 = .ok (.new 182, 3) := by decide +kernel
theorem dX7_coin_14 : decode cX7_coin 14 = .ok (.dup, 1) := by decide +kernel
theorem dX7_coin_15 : decode cX7_coin 15 = .ok (.ldc 184, 2) := by decide +kernel
theorem dX7_coin_17 : decode cX7_coin 17 = .ok (.invokespecial 186, 3) := by decide +kernel
theorem dX7_coin_20 : decode cX7_coin 20 = .ok (.athrow, 1) := by decide +kernel
theorem dX7_coin_21 : decode cX7_coin 21 = .ok (.aload_n 0, 1) := by decide +kernel
theorem dX7_coin_22 : decode cX7_coin 22 = .ok (.getfield 19, 3) := by decide +kernel
theorem dX7_coin_25 : decode cX7_coin 25 = .ok (.getfield 149, 3) := by decide +kernel
theorem dX7_coin_28 : decode cX7_coin 28 = .ok (.iload_n 1, 1) := by decide +kernel
theorem dX7_coin_29 : decode cX7_coin 29 = .ok (.invokevirtual 187, 3) := by decide +kernel
theorem dX7_coin_32 : decode cX7_coin 32 = .ok (.ireturn, 1) := by decide +kernel
theorem dX7_pans_0 : decode cX7_pans 0 = .ok (.aload_n 0, 1) := by decide +kernel
theorem dX7_pans_1 : decode cX7_pans 1 = .ok (.getfield 19, 3) := by decide +kernel
theorem dX7_pans_4 : decode cX7_pans 4 = .ok (.getfield 149, 3) := by decide +kernel
theorem dX7_pans_7 : decode cX7_pans 7 = .ok (.invokevirtual 191, 3) := by decide +kernel
theorem dX7_pans_10 : decode cX7_pans 10 = .ok (.ireturn, 1) := by decide +kernel
theorem dX7_isLeft_0 : decode cX7_isLeft 0 = .ok (.iload_n 1, 1) := by decide +kernel
theorem dX7_isLeft_1 : decode cX7_isLeft 1 = .ok (.ifCond .lt 14, 3) := by decide +kernel
theorem dX7_isLeft_4 : decode cX7_isLeft 4 = .ok (.iload_n 1, 1) := by decide +kernel
theorem dX7_isLeft_5 : decode cX7_isLeft 5 = .ok (.aload_n 0, 1) := by decide +kernel
theorem dX7_isLeft_6 : decode cX7_isLeft 6 = .ok (.getfield 19, 3) := by decide +kernel
theorem dX7_isLeft_9 : decode cX7_isLeft 9 = .ok (.invokevirtual 146, 3) := by decide +kernel
theorem dX7_isLeft_12 : decode cX7_isLeft 12 = .ok (.if_icmp .lt 13, 3) := by decide +kernel
theorem dX7_isLeft_15 : decode cX7_isLeft 15 = .ok (.new 182, 3) := by decide +kernel
theorem dX7_isLeft_18 : decode cX7_isLeft 18 = .ok (.dup, 1) := by decide +kernel
theorem dX7_isLeft_19 : decode cX7_isLeft 19 = .ok (.ldc 194, 2) := by decide +kernel
theorem dX7_isLeft_21 : decode cX7_isLeft 21 = .ok (.invokespecial 186, 3) := by decide +kernel
theorem dX7_isLeft_24 : decode cX7_isLeft 24 = .ok (.athrow, 1) := by decide +kernel
theorem dX7_isLeft_25 : decode cX7_isLeft 25 = .ok (.aload_n 0, 1) := by decide +kernel
theorem dX7_isLeft_26 : decode cX7_isLeft 26 = .ok (.getfield 19, 3) := by decide +kernel
theorem dX7_isLeft_29 : decode cX7_isLeft 29 = .ok (.getfield 149, 3) := by decide +kernel
theorem dX7_isLeft_32 : decode cX7_isLeft 32 = .ok (.iload_n 1, 1) := by decide +kernel
theorem dX7_isLeft_33 : decode cX7_isLeft 33 = .ok (.invokevirtual 196, 3) := by decide +kernel
theorem dX7_isLeft_36 : decode cX7_isLeft 36 = .ok (.ifCond .eq 7, 3) := by decide +kernel
theorem dX7_isLeft_39 : decode cX7_isLeft 39 = .ok (.iconst 1, 1) := by decide +kernel
theorem dX7_isLeft_40 : decode cX7_isLeft 40 = .ok (.goto 4, 3) := by decide +kernel
theorem dX7_isLeft_43 : decode cX7_isLeft 43 = .ok (.iconst 0, 1) := by decide +kernel
theorem dX7_isLeft_44 : decode cX7_isLeft 44 = .ok (.ireturn, 1) := by decide +kernel
theorem dX7_weighing_0 : decode cX7_weighing 0 = .ok (.iload_n 1, 1) := by decide +kernel
theorem dX7_weighing_1 : decode cX7_weighing 1 = .ok (.ifCond .lt 14, 3) := by decide +kernel
theorem dX7_weighing_4 : decode cX7_weighing 4 = .ok (.iload_n 1, 1) := by decide +kernel
theorem dX7_weighing_5 : decode cX7_weighing 5 = .ok (.aload_n 0, 1) := by decide +kernel
theorem dX7_weighing_6 : decode cX7_weighing 6 = .ok (.getfield 19, 3) := by decide +kernel
theorem dX7_weighing_9 : decode cX7_weighing 9 = .ok (.getfield 158, 3) := by decide +kernel
theorem dX7_weighing_12 : decode cX7_weighing 12 = .ok (.if_icmp .lt 13, 3) := by decide +kernel
theorem dX7_weighing_15 : decode cX7_weighing 15 = .ok (.new 182, 3) := by decide +kernel
theorem dX7_weighing_18 : decode cX7_weighing 18 = .ok (.dup, 1) := by decide +kernel
theorem dX7_weighing_19 : decode cX7_weighing 19 = .ok (.ldc 199, 2) := by decide +kernel
theorem dX7_weighing_21 : decode cX7_weighing 21 = .ok (.invokespecial 186, 3) := by decide +kernel
theorem dX7_weighing_24 : decode cX7_weighing 24 = .ok (.athrow, 1) := by decide +kernel
theorem dX7_weighing_25 : decode cX7_weighing 25 = .ok (.iload_n 2, 1) := by decide +kernel
theorem dX7_weighing_26 : decode cX7_weighing 26 = .ok (.ifCond .lt 9, 3) := by decide +kernel
theorem dX7_weighing_29 : decode cX7_weighing 29 = .ok (.iload_n 2, 1) := by decide +kernel
theorem dX7_weighing_30 : decode cX7_weighing 30 = .ok (.bipush 6, 2) := by decide +kernel
theorem dX7_weighing_32 : decode cX7_weighing 32 = .ok (.if_icmp .lt 13, 3) := by decide +kernel
theorem dX7_weighing_35 : decode cX7_weighing 35 = .ok (.new 67, 3) := by decide +kernel
theorem dX7_weighing_38 : decode cX7_weighing 38 = .ok (.dup, 1) := by decide +kernel
theorem dX7_weighing_39 : decode cX7_weighing 39 = .ok (.ldc 201, 2) := by decide +kernel
theorem dX7_weighing_41 : decode cX7_weighing 41 = .ok (.invokespecial 71, 3) := by decide +kernel
theorem dX7_weighing_44 : decode cX7_weighing 44 = .ok (.athrow, 1) := by decide +kernel
theorem dX7_weighing_45 : decode cX7_weighing 45 = .ok (.aload_n 0, 1) := by decide +kernel
theorem dX7_weighing_46 : decode cX7_weighing 46 = .ok (.getfield 19, 3) := by decide +kernel
theorem dX7_weighing_49 : decode cX7_weighing 49 = .ok (.iload_n 1, 1) := by decide +kernel
theorem dX7_weighing_50 : decode cX7_weighing 50 = .ok (.iload_n 2, 1) := by decide +kernel
theorem dX7_weighing_51 : decode cX7_weighing 51 = .ok (.invokevirtual 203, 3) := by decide +kernel
theorem dX7_weighing_54 : decode cX7_weighing 54 = .ok (.ireturn, 1) := by decide +kernel
theorem dX7_hide_0 : decode cX7_hide 0 = .ok (.iload_n 1, 1) := by decide +kernel
theorem dX7_hide_1 : decode cX7_hide 1 = .ok (.iconst 3, 1) := by decide +kernel
theorem dX7_hide_2 : decode cX7_hide 2 = .ok (.if_icmp .lt 9, 3) := by decide +kernel
theorem dX7_hide_5 : decode cX7_hide 5 = .ok (.iload_n 1, 1) := by decide +kernel
theorem dX7_hide_6 : decode cX7_hide 6 = .ok (.bipush 12, 2) := by decide +kernel
theorem dX7_hide_8 : decode cX7_hide 8 = .ok (.if_icmp .le 13, 3) := by decide +kernel
theorem dX7_hide_11 : decode cX7_hide 11 = .ok (.new 67, 3) := by decide +kernel
theorem dX7_hide_14 : decode cX7_hide 14 = .ok (.dup, 1) := by decide +kernel
theorem dX7_hide_15 : decode cX7_hide 15 = .ok (.ldc 207, 2) := by decide +kernel
theorem dX7_hide_17 : decode cX7_hide 17 = .ok (.invokespecial 71, 3) := by decide +kernel
theorem dX7_hide_20 : decode cX7_hide 20 = .ok (.athrow, 1) := by decide +kernel
theorem dX7_hide_21 : decode cX7_hide 21 = .ok (.iload_n 2, 1) := by decide +kernel
theorem dX7_hide_22 : decode cX7_hide 22 = .ok (.ifCond .lt 11, 3) := by decide +kernel
theorem dX7_hide_25 : decode cX7_hide 25 = .ok (.iload_n 2, 1) := by decide +kernel
theorem dX7_hide_26 : decode cX7_hide 26 = .ok (.iload_n 1, 1) := by decide +kernel
theorem dX7_hide_27 : decode cX7_hide 27 = .ok (.invokestatic 209, 3) := by decide +kernel
theorem dX7_hide_30 : decode cX7_hide 30 = .ok (.if_icmp .lt 13, 3) := by decide +kernel
theorem dX7_hide_33 : decode cX7_hide 33 = .ok (.new 182, 3) := by decide +kernel
theorem dX7_hide_36 : decode cX7_hide 36 = .ok (.dup, 1) := by decide +kernel
theorem dX7_hide_37 : decode cX7_hide 37 = .ok (.ldc 194, 2) := by decide +kernel
theorem dX7_hide_39 : decode cX7_hide 39 = .ok (.invokespecial 186, 3) := by decide +kernel
theorem dX7_hide_42 : decode cX7_hide 42 = .ok (.athrow, 1) := by decide +kernel
theorem dX7_hide_43 : decode cX7_hide 43 = .ok (.aload_n 0, 1) := by decide +kernel
theorem dX7_hide_44 : decode cX7_hide 44 = .ok (.getfield 29, 3) := by decide +kernel
theorem dX7_hide_47 : decode cX7_hide 47 = .ok (.aload_n 0, 1) := by decide +kernel
theorem dX7_hide_48 : decode cX7_hide 48 = .ok (.getfield 19, 3) := by decide +kernel
theorem dX7_hide_51 : decode cX7_hide 51 = .ok (.invokevirtual 212, 3) := by decide +kernel
theorem dX7_hide_54 : decode cX7_hide 54 = .ok (.aload_n 0, 1) := by decide +kernel
theorem dX7_hide_55 : decode cX7_hide 55 = .ok (.getfield 19, 3) := by decide +kernel
theorem dX7_hide_58 : decode cX7_hide 58 = .ok (.iload_n 1, 1) := by decide +kernel
theorem dX7_hide_59 : decode cX7_hide 59 = .ok (.iload_n 2, 1) := by decide +kernel
theorem dX7_hide_60 : decode cX7_hide 60 = .ok (.invokevirtual 122, 3) := by decide +kernel
theorem dX7_hide_63 : decode cX7_hide 63 = .ok (.aload_n 0, 1) := by decide +kernel
theorem dX7_hide_64 : decode cX7_hide 64 = .ok (.getfield 19, 3) := by decide +kernel
theorem dX7_hide_67 : decode cX7_hide 67 = .ok (.invokevirtual 146, 3) := by decide +kernel
theorem dX7_hide_70 : decode cX7_hide 70 = .ok (.ireturn, 1) := by decide +kernel
theorem dX7_arms_0 : decode cX7_arms 0 = .ok (.iload_n 1, 1) := by decide +kernel
theorem dX7_arms_1 : decode cX7_arms 1 = .ok (.invokestatic 216, 3) := by decide +kernel
theorem dX7_arms_4 : decode cX7_arms 4 = .ok (.ifCond .eq 10, 3) := by decide +kernel
theorem dX7_arms_7 : decode cX7_arms 7 = .ok (.iload_n 2, 1) := by decide +kernel
theorem dX7_arms_8 : decode cX7_arms 8 = .ok (.invokestatic 216, 3) := by decide +kernel
theorem dX7_arms_11 : decode cX7_arms 11 = .ok (.ifCond .ne 13, 3) := by decide +kernel
theorem dX7_arms_14 : decode cX7_arms 14 = .ok (.new 67, 3) := by decide +kernel
theorem dX7_arms_17 : decode cX7_arms 17 = .ok (.dup, 1) := by decide +kernel
theorem dX7_arms_18 : decode cX7_arms 18 = .ok (.ldc 219, 2) := by decide +kernel
theorem dX7_arms_20 : decode cX7_arms 20 = .ok (.invokespecial 71, 3) := by decide +kernel
theorem dX7_arms_23 : decode cX7_arms 23 = .ok (.athrow, 1) := by decide +kernel
theorem dX7_arms_24 : decode cX7_arms 24 = .ok (.aload_n 0, 1) := by decide +kernel
theorem dX7_arms_25 : decode cX7_arms 25 = .ok (.getfield 29, 3) := by decide +kernel
theorem dX7_arms_28 : decode cX7_arms 28 = .ok (.aload_n 0, 1) := by decide +kernel
theorem dX7_arms_29 : decode cX7_arms 29 = .ok (.getfield 19, 3) := by decide +kernel
theorem dX7_arms_32 : decode cX7_arms 32 = .ok (.invokevirtual 212, 3) := by decide +kernel
theorem dX7_arms_35 : decode cX7_arms 35 = .ok (.aload_n 0, 1) := by decide +kernel
theorem dX7_arms_36 : decode cX7_arms 36 = .ok (.getfield 19, 3) := by decide +kernel
theorem dX7_arms_39 : decode cX7_arms 39 = .ok (.iload_n 1, 1) := by decide +kernel
theorem dX7_arms_40 : decode cX7_arms 40 = .ok (.iload_n 2, 1) := by decide +kernel
theorem dX7_arms_41 : decode cX7_arms 41 = .ok (.invokevirtual 138, 3) := by decide +kernel
theorem dX7_arms_44 : decode cX7_arms 44 = .ok (.pop, 1) := by decide +kernel
theorem dX7_arms_45 : decode cX7_arms 45 = .ok (.iload_n 1, 1) := by decide +kernel
theorem dX7_arms_46 : decode cX7_arms 46 = .ok (.iload_n 2, 1) := by decide +kernel
theorem dX7_arms_47 : decode cX7_arms 47 = .ok (.if_icmp .ne 7, 3) := by decide +kernel
theorem dX7_arms_50 : decode cX7_arms 50 = .ok (.iconst 1, 1) := by decide +kernel
theorem dX7_arms_51 : decode cX7_arms 51 = .ok (.goto 4, 3) := by decide +kernel
theorem dX7_arms_54 : decode cX7_arms 54 = .ok (.iconst 0, 1) := by decide +kernel
theorem dX7_arms_55 : decode cX7_arms 55 = .ok (.ireturn, 1) := by decide +kernel
theorem dX7_weigh_0 : decode cX7_weigh 0 = .ok (.aload_n 0, 1) := by decide +kernel
theorem dX7_weigh_1 : decode cX7_weigh 1 = .ok (.iload_n 1, 1) := by decide +kernel
theorem dX7_weigh_2 : decode cX7_weigh 2 = .ok (.iload_n 2, 1) := by decide +kernel
theorem dX7_weigh_3 : decode cX7_weigh 3 = .ok (.invokevirtual 221, 3) := by decide +kernel
theorem dX7_weigh_6 : decode cX7_weigh 6 = .ok (.aload_n 0, 1) := by decide +kernel
theorem dX7_weigh_7 : decode cX7_weigh 7 = .ok (.getfield 19, 3) := by decide +kernel
theorem dX7_weigh_10 : decode cX7_weigh 10 = .ok (.invokevirtual 224, 3) := by decide +kernel
theorem dX7_weigh_13 : decode cX7_weigh 13 = .ok (.ifCond .eq 13, 3) := by decide +kernel
theorem dX7_weigh_16 : decode cX7_weigh 16 = .ok (.new 78, 3) := by decide +kernel
theorem dX7_weigh_19 : decode cX7_weigh 19 = .ok (.dup, 1) := by decide +kernel
theorem dX7_weigh_20 : decode cX7_weigh 20 = .ok (.ldc 227, 2) := by decide +kernel
theorem dX7_weigh_22 : decode cX7_weigh 22 = .ok (.invokespecial 82, 3) := by decide +kernel
theorem dX7_weigh_25 : decode cX7_weigh 25 = .ok (.athrow, 1) := by decide +kernel
theorem dX7_weigh_26 : decode cX7_weigh 26 = .ok (.aload_n 0, 1) := by decide +kernel
theorem dX7_weigh_27 : decode cX7_weigh 27 = .ok (.getfield 29, 3) := by decide +kernel
theorem dX7_weigh_30 : decode cX7_weigh 30 = .ok (.aload_n 0, 1) := by decide +kernel
theorem dX7_weigh_31 : decode cX7_weigh 31 = .ok (.getfield 19, 3) := by decide +kernel
theorem dX7_weigh_34 : decode cX7_weigh 34 = .ok (.invokevirtual 212, 3) := by decide +kernel
theorem dX7_weigh_37 : decode cX7_weigh 37 = .ok (.aload_n 0, 1) := by decide +kernel
theorem dX7_weigh_38 : decode cX7_weigh 38 = .ok (.getfield 19, 3) := by decide +kernel
theorem dX7_weigh_41 : decode cX7_weigh 41 = .ok (.iload_n 1, 1) := by decide +kernel
theorem dX7_weigh_42 : decode cX7_weigh 42 = .ok (.iload_n 2, 1) := by decide +kernel
theorem dX7_weigh_43 : decode cX7_weigh 43 = .ok (.invokevirtual 142, 3) := by decide +kernel
theorem dX7_weigh_46 : decode cX7_weigh 46 = .ok (.pop, 1) := by decide +kernel
theorem dX7_weigh_47 : decode cX7_weigh 47 = .ok (.aload_n 0, 1) := by decide +kernel
theorem dX7_weigh_48 : decode cX7_weigh 48 = .ok (.getfield 19, 3) := by decide +kernel
theorem dX7_weigh_51 : decode cX7_weigh 51 = .ok (.invokevirtual 229, 3) := by decide +kernel
theorem dX7_weigh_54 : decode cX7_weigh 54 = .ok (.ireturn, 1) := by decide +kernel
theorem dX7_accuse_0 : decode cX7_accuse 0 = .ok (.aload_n 0, 1) := by decide +kernel
theorem dX7_accuse_1 : decode cX7_accuse 1 = .ok (.getfield 19, 3) := by decide +kernel
theorem dX7_accuse_4 : decode cX7_accuse 4 = .ok (.iload_n 1, 1) := by decide +kernel
theorem dX7_accuse_5 : decode cX7_accuse 5 = .ok (.invokevirtual 178, 3) := by decide +kernel
theorem dX7_accuse_8 : decode cX7_accuse 8 = .ok (.ifCond .ne 13, 3) := by decide +kernel
theorem dX7_accuse_11 : decode cX7_accuse 11 = .ok (.new 182, 3) := by decide +kernel
theorem dX7_accuse_14 : decode cX7_accuse 14 = .ok (.dup, 1) := by decide +kernel
theorem dX7_accuse_15 : decode cX7_accuse 15 = .ok (.ldc 184, 2) := by decide +kernel
theorem dX7_accuse_17 : decode cX7_accuse 17 = .ok (.invokespecial 186, 3) := by decide +kernel
theorem dX7_accuse_20 : decode cX7_accuse 20 = .ok (.athrow, 1) := by decide +kernel
theorem dX7_accuse_21 : decode cX7_accuse 21 = .ok (.aload_n 0, 1) := by decide +kernel
theorem dX7_accuse_22 : decode cX7_accuse 22 = .ok (.getfield 29, 3) := by decide +kernel
theorem dX7_accuse_25 : decode cX7_accuse 25 = .ok (.aload_n 0, 1) := by decide +kernel
theorem dX7_accuse_26 : decode cX7_accuse 26 = .ok (.getfield 19, 3) := by decide +kernel
theorem dX7_accuse_29 : decode cX7_accuse 29 = .ok (.invokevirtual 212, 3) := by decide +kernel
theorem dX7_accuse_32 : decode cX7_accuse 32 = .ok (.aload_n 0, 1) := by decide +kernel
theorem dX7_accuse_33 : decode cX7_accuse 33 = .ok (.getfield 19, 3) := by decide +kernel
theorem dX7_accuse_36 : decode cX7_accuse 36 = .ok (.iload_n 1, 1) := by decide +kernel
theorem dX7_accuse_37 : decode cX7_accuse 37 = .ok (.iload_n 2, 1) := by decide +kernel
theorem dX7_accuse_38 : decode cX7_accuse 38 = .ok (.invokevirtual 232, 3) := by decide +kernel
theorem dX7_accuse_41 : decode cX7_accuse 41 = .ok (.ifCond .eq 7, 3) := by decide +kernel
theorem dX7_accuse_44 : decode cX7_accuse 44 = .ok (.iconst 1, 1) := by decide +kernel
theorem dX7_accuse_45 : decode cX7_accuse 45 = .ok (.goto 4, 3) := by decide +kernel
theorem dX7_accuse_48 : decode cX7_accuse 48 = .ok (.iconst 0, 1) := by decide +kernel
theorem dX7_accuse_49 : decode cX7_accuse 49 = .ok (.ireturn, 1) := by decide +kernel
theorem dX7_accusePan_0 : decode cX7_accusePan 0 = .ok (.iload_n 1, 1) := by decide +kernel
theorem dX7_accusePan_1 : decode cX7_accusePan 1 = .ok (.invokestatic 236, 3) := by decide +kernel
theorem dX7_accusePan_4 : decode cX7_accusePan 4 = .ok (.ifCond .ne 13, 3) := by decide +kernel
theorem dX7_accusePan_7 : decode cX7_accusePan 7 = .ok (.new 67, 3) := by decide +kernel
theorem dX7_accusePan_10 : decode cX7_accusePan 10 = .ok (.dup, 1) := by decide +kernel
theorem dX7_accusePan_11 : decode cX7_accusePan 11 = .ok (.ldc 239, 2) := by decide +kernel
theorem dX7_accusePan_13 : decode cX7_accusePan 13 = .ok (.invokespecial 71, 3) := by decide +kernel
theorem dX7_accusePan_16 : decode cX7_accusePan 16 = .ok (.athrow, 1) := by decide +kernel
theorem dX7_accusePan_17 : decode cX7_accusePan 17 = .ok (.aload_n 0, 1) := by decide +kernel
theorem dX7_accusePan_18 : decode cX7_accusePan 18 = .ok (.getfield 29, 3) := by decide +kernel
theorem dX7_accusePan_21 : decode cX7_accusePan 21 = .ok (.aload_n 0, 1) := by decide +kernel
theorem dX7_accusePan_22 : decode cX7_accusePan 22 = .ok (.getfield 19, 3) := by decide +kernel
theorem dX7_accusePan_25 : decode cX7_accusePan 25 = .ok (.invokevirtual 212, 3) := by decide +kernel
theorem dX7_accusePan_28 : decode cX7_accusePan 28 = .ok (.aload_n 0, 1) := by decide +kernel
theorem dX7_accusePan_29 : decode cX7_accusePan 29 = .ok (.getfield 19, 3) := by decide +kernel
theorem dX7_accusePan_32 : decode cX7_accusePan 32 = .ok (.iload_n 1, 1) := by decide +kernel
theorem dX7_accusePan_33 : decode cX7_accusePan 33 = .ok (.invokevirtual 241, 3) := by decide +kernel
theorem dX7_accusePan_36 : decode cX7_accusePan 36 = .ok (.ifCond .eq 7, 3) := by decide +kernel
theorem dX7_accusePan_39 : decode cX7_accusePan 39 = .ok (.iconst 1, 1) := by decide +kernel
theorem dX7_accusePan_40 : decode cX7_accusePan 40 = .ok (.goto 4, 3) := by decide +kernel
theorem dX7_accusePan_43 : decode cX7_accusePan 43 = .ok (.iconst 0, 1) := by decide +kernel
theorem dX7_accusePan_44 : decode cX7_accusePan 44 = .ok (.ireturn, 1) := by decide +kernel
theorem dX7_forget_0 : decode cX7_forget 0 = .ok (.aload_n 0, 1) := by decide +kernel
theorem dX7_forget_1 : decode cX7_forget 1 = .ok (.getfield 19, 3) := by decide +kernel
theorem dX7_forget_4 : decode cX7_forget 4 = .ok (.getfield 158, 3) := by decide +kernel
theorem dX7_forget_7 : decode cX7_forget 7 = .ok (.ifCond .gt 13, 3) := by decide +kernel
theorem dX7_forget_10 : decode cX7_forget 10 = .ok (.new 78, 3) := by decide +kernel
theorem dX7_forget_13 : decode cX7_forget 13 = .ok (.dup, 1) := by decide +kernel
theorem dX7_forget_14 : decode cX7_forget 14 = .ok (.ldc 244, 2) := by decide +kernel
theorem dX7_forget_16 : decode cX7_forget 16 = .ok (.invokespecial 82, 3) := by decide +kernel
theorem dX7_forget_19 : decode cX7_forget 19 = .ok (.athrow, 1) := by decide +kernel
theorem dX7_forget_20 : decode cX7_forget 20 = .ok (.aload_n 0, 1) := by decide +kernel
theorem dX7_forget_21 : decode cX7_forget 21 = .ok (.getfield 29, 3) := by decide +kernel
theorem dX7_forget_24 : decode cX7_forget 24 = .ok (.aload_n 0, 1) := by decide +kernel
theorem dX7_forget_25 : decode cX7_forget 25 = .ok (.getfield 19, 3) := by decide +kernel
theorem dX7_forget_28 : decode cX7_forget 28 = .ok (.invokevirtual 212, 3) := by decide +kernel
theorem dX7_forget_31 : decode cX7_forget 31 = .ok (.aload_n 0, 1) := by decide +kernel
theorem dX7_forget_32 : decode cX7_forget 32 = .ok (.getfield 19, 3) := by decide +kernel
theorem dX7_forget_35 : decode cX7_forget 35 = .ok (.invokevirtual 246, 3) := by decide +kernel
theorem dX7_forget_38 : decode cX7_forget 38 = .ok (.pop, 1) := by decide +kernel
theorem dX7_forget_39 : decode cX7_forget 39 = .ok (.aload_n 0, 1) := by decide +kernel
theorem dX7_forget_40 : decode cX7_forget 40 = .ok (.getfield 19, 3) := by decide +kernel
theorem dX7_forget_43 : decode cX7_forget 43 = .ok (.getfield 158, 3) := by decide +kernel
theorem dX7_forget_46 : decode cX7_forget 46 = .ok (.ireturn, 1) := by decide +kernel
theorem dX7_undo_0 : decode cX7_undo 0 = .ok (.aload_n 0, 1) := by decide +kernel
theorem dX7_undo_1 : decode cX7_undo 1 = .ok (.getfield 29, 3) := by decide +kernel
theorem dX7_undo_4 : decode cX7_undo 4 = .ok (.getfield 249, 3) := by decide +kernel
theorem dX7_undo_7 : decode cX7_undo 7 = .ok (.ifCond .gt 13, 3) := by decide +kernel
theorem dX7_undo_10 : decode cX7_undo 10 = .ok (.new 78, 3) := by decide +kernel
theorem dX7_undo_13 : decode cX7_undo 13 = .ok (.dup, 1) := by decide +kernel
theorem dX7_undo_14 : decode cX7_undo 14 = .ok (.ldc 251, 2) := by decide +kernel
theorem dX7_undo_16 : decode cX7_undo 16 = .ok (.invokespecial 82, 3) := by decide +kernel
theorem dX7_undo_19 : decode cX7_undo 19 = .ok (.athrow, 1) := by decide +kernel
theorem dX7_undo_20 : decode cX7_undo 20 = .ok (.aload_n 0, 1) := by decide +kernel
theorem dX7_undo_21 : decode cX7_undo 21 = .ok (.getfield 29, 3) := by decide +kernel
theorem dX7_undo_24 : decode cX7_undo 24 = .ok (.aload_n 0, 1) := by decide +kernel
theorem dX7_undo_25 : decode cX7_undo 25 = .ok (.getfield 19, 3) := by decide +kernel
theorem dX7_undo_28 : decode cX7_undo 28 = .ok (.invokevirtual 253, 3) := by decide +kernel
theorem dX7_undo_31 : decode cX7_undo 31 = .ok (.aload_n 0, 1) := by decide +kernel
theorem dX7_undo_32 : decode cX7_undo 32 = .ok (.getfield 29, 3) := by decide +kernel
theorem dX7_undo_35 : decode cX7_undo 35 = .ok (.getfield 249, 3) := by decide +kernel
theorem dX7_undo_38 : decode cX7_undo 38 = .ok (.ireturn, 1) := by decide +kernel
theorem dX7_leaves_0 : decode cX7_leaves 0 = .ok (.iload_n 3, 1) := by decide +kernel
theorem dX7_leaves_1 : decode cX7_leaves 1 = .ok (.ifCond .lt 8, 3) := by decide +kernel
theorem dX7_leaves_4 : decode cX7_leaves 4 = .ok (.iload_n 3, 1) := by decide +kernel
theorem dX7_leaves_5 : decode cX7_leaves 5 = .ok (.iconst 3, 1) := by decide +kernel
theorem dX7_leaves_6 : decode cX7_leaves 6 = .ok (.if_icmp .lt 14, 3) := by decide +kernel
theorem dX7_leaves_9 : decode cX7_leaves 9 = .ok (.new 182, 3) := by decide +kernel
theorem dX7_leaves_12 : decode cX7_leaves 12 = .ok (.dup, 1) := by decide +kernel
theorem dX7_leaves_13 : decode cX7_leaves 13 = .ok (.ldc_w 256, 3) := by decide +kernel
theorem dX7_leaves_16 : decode cX7_leaves 16 = .ok (.invokespecial 186, 3) := by decide +kernel
theorem dX7_leaves_19 : decode cX7_leaves 19 = .ok (.athrow, 1) := by decide +kernel
theorem dX7_leaves_20 : decode cX7_leaves 20 = .ok (.aload_n 0, 1) := by decide +kernel
theorem dX7_leaves_21 : decode cX7_leaves 21 = .ok (.iload_n 1, 1) := by decide +kernel
theorem dX7_leaves_22 : decode cX7_leaves 22 = .ok (.iload_n 2, 1) := by decide +kernel
theorem dX7_leaves_23 : decode cX7_leaves 23 = .ok (.invokevirtual 221, 3) := by decide +kernel
theorem dX7_leaves_26 : decode cX7_leaves 26 = .ok (.aload_n 0, 1) := by decide +kernel
theorem dX7_leaves_27 : decode cX7_leaves 27 = .ok (.getfield 19, 3) := by decide +kernel
theorem dX7_leaves_30 : decode cX7_leaves 30 = .ok (.iload_n 1, 1) := by decide +kernel
theorem dX7_leaves_31 : decode cX7_leaves 31 = .ok (.iload_n 2, 1) := by decide +kernel
theorem dX7_leaves_32 : decode cX7_leaves 32 = .ok (.aload_n 0, 1) := by decide +kernel
theorem dX7_leaves_33 : decode cX7_leaves 33 = .ok (.getfield 46, 3) := by decide +kernel
theorem dX7_leaves_36 : decode cX7_leaves 36 = .ok (.invokevirtual 258, 3) := by decide +kernel
theorem dX7_leaves_39 : decode cX7_leaves 39 = .ok (.aload_n 0, 1) := by decide +kernel
theorem dX7_leaves_40 : decode cX7_leaves 40 = .ok (.getfield 46, 3) := by decide +kernel
theorem dX7_leaves_43 : decode cX7_leaves 43 = .ok (.iload_n 3, 1) := by decide +kernel
theorem dX7_leaves_44 : decode cX7_leaves 44 = .ok (.invokevirtual 262, 3) := by decide +kernel
theorem dX7_leaves_47 : decode cX7_leaves 47 = .ok (.ireturn, 1) := by decide +kernel
theorem dX7_best_0 : decode cX7_best 0 = .ok (.iload_n 1, 1) := by decide +kernel
theorem dX7_best_1 : decode cX7_best 1 = .ok (.iconst 1, 1) := by decide +kernel
theorem dX7_best_2 : decode cX7_best 2 = .ok (.if_icmp .lt 8, 3) := by decide +kernel
theorem dX7_best_5 : decode cX7_best 5 = .ok (.iload_n 1, 1) := by decide +kernel
theorem dX7_best_6 : decode cX7_best 6 = .ok (.iconst 2, 1) := by decide +kernel
theorem dX7_best_7 : decode cX7_best 7 = .ok (.if_icmp .le 14, 3) := by decide +kernel
theorem dX7_best_10 : decode cX7_best 10 = .ok (.new 67, 3) := by decide +kernel
theorem dX7_best_13 : decode cX7_best 13 = .ok (.dup, 1) := by decide +kernel
theorem dX7_best_14 : decode cX7_best 14 = .ok (.ldc_w 265, 3) := by decide +kernel
theorem dX7_best_17 : decode cX7_best 17 = .ok (.invokespecial 71, 3) := by decide +kernel
theorem dX7_best_20 : decode cX7_best 20 = .ok (.athrow, 1) := by decide +kernel
theorem dX7_best_21 : decode cX7_best 21 = .ok (.iload_n 2, 1) := by decide +kernel
theorem dX7_best_22 : decode cX7_best 22 = .ok (.ifCond .lt 8, 3) := by decide +kernel
theorem dX7_best_25 : decode cX7_best 25 = .ok (.iload_n 2, 1) := by decide +kernel
theorem dX7_best_26 : decode cX7_best 26 = .ok (.iconst 2, 1) := by decide +kernel
theorem dX7_best_27 : decode cX7_best 27 = .ok (.if_icmp .le 14, 3) := by decide +kernel
theorem dX7_best_30 : decode cX7_best 30 = .ok (.new 67, 3) := by decide +kernel
theorem dX7_best_33 : decode cX7_best 33 = .ok (.dup, 1) := by decide +kernel
theorem dX7_best_34 : decode cX7_best 34 = .ok (.ldc_w 267, 3) := by decide +kernel
theorem dX7_best_37 : decode cX7_best 37 = .ok (.invokespecial 71, 3) := by decide +kernel
theorem dX7_best_40 : decode cX7_best 40 = .ok (.athrow, 1) := by decide +kernel
theorem dX7_best_41 : decode cX7_best 41 = .ok (.iload_n 1, 1) := by decide +kernel
theorem dX7_best_42 : decode cX7_best 42 = .ok (.iconst 1, 1) := by decide +kernel
theorem dX7_best_43 : decode cX7_best 43 = .ok (.if_icmp .ne 10, 3) := by decide +kernel
theorem dX7_best_46 : decode cX7_best 46 = .ok (.aload_n 0, 1) := by decide +kernel
theorem dX7_best_47 : decode cX7_best 47 = .ok (.getfield 54, 3) := by decide +kernel
theorem dX7_best_50 : decode cX7_best 50 = .ok (.goto 7, 3) := by decide +kernel
theorem dX7_best_53 : decode cX7_best 53 = .ok (.aload_n 0, 1) := by decide +kernel
theorem dX7_best_54 : decode cX7_best 54 = .ok (.getfield 61, 3) := by decide +kernel
theorem dX7_best_57 : decode cX7_best 57 = .ok (.astore_n 3, 1) := by decide +kernel
theorem dX7_best_58 : decode cX7_best 58 = .ok (.iconst 1, 1) := by decide +kernel
theorem dX7_best_59 : decode cX7_best 59 = .ok (.aload_n 0, 1) := by decide +kernel
theorem dX7_best_60 : decode cX7_best 60 = .ok (.getfield 19, 3) := by decide +kernel
theorem dX7_best_63 : decode cX7_best 63 = .ok (.getfield 145, 3) := by decide +kernel
theorem dX7_best_66 : decode cX7_best 66 = .ok (.ishl, 1) := by decide +kernel
theorem dX7_best_67 : decode cX7_best 67 = .ok (.istore 4, 2) := by decide +kernel
theorem dX7_best_69 : decode cX7_best 69 = .ok (.iconst (-1), 1) := by decide +kernel
theorem dX7_best_70 : decode cX7_best 70 = .ok (.istore 5, 2) := by decide +kernel
theorem dX7_best_72 : decode cX7_best 72 = .ok (.iconst (-1), 1) := by decide +kernel
theorem dX7_best_73 : decode cX7_best 73 = .ok (.istore 6, 2) := by decide +kernel
theorem dX7_best_75 : decode cX7_best 75 = .ok (.iconst (-1), 1) := by decide +kernel
theorem dX7_best_76 : decode cX7_best 76 = .ok (.istore 7, 2) := by decide +kernel
theorem dX7_best_78 : decode cX7_best 78 = .ok (.iconst 0, 1) := by decide +kernel
theorem dX7_best_79 : decode cX7_best 79 = .ok (.istore 8, 2) := by decide +kernel
theorem dX7_best_81 : decode cX7_best 81 = .ok (.iload 8, 2) := by decide +kernel
theorem dX7_best_83 : decode cX7_best 83 = .ok (.aload_n 3, 1) := by decide +kernel
theorem dX7_best_84 : decode cX7_best 84 = .ok (.arraylength, 1) := by decide +kernel
theorem dX7_best_85 : decode cX7_best 85 = .ok (.if_icmp .ge 116, 3) := by decide +kernel
theorem dX7_best_88 : decode cX7_best 88 = .ok (.aload_n 3, 1) := by decide +kernel
theorem dX7_best_89 : decode cX7_best 89 = .ok (.iload 8, 2) := by decide +kernel
theorem dX7_best_91 : decode cX7_best 91 = .ok (.iaload, 1) := by decide +kernel
theorem dX7_best_92 : decode cX7_best 92 = .ok (.iload 4, 2) := by decide +kernel
theorem dX7_best_94 : decode cX7_best 94 = .ok (.if_icmp .ge 107, 3) := by decide +kernel
theorem dX7_best_97 : decode cX7_best 97 = .ok (.iconst 0, 1) := by decide +kernel
theorem dX7_best_98 : decode cX7_best 98 = .ok (.istore 9, 2) := by decide +kernel
theorem dX7_best_100 : decode cX7_best 100 = .ok (.iload 9, 2) := by decide +kernel
theorem dX7_best_102 : decode cX7_best 102 = .ok (.aload_n 3, 1) := by decide +kernel
theorem dX7_best_103 : decode cX7_best 103 = .ok (.arraylength, 1) := by decide +kernel
theorem dX7_best_104 : decode cX7_best 104 = .ok (.if_icmp .ge 91, 3) := by decide +kernel
theorem dX7_best_107 : decode cX7_best 107 = .ok (.aload_n 3, 1) := by decide +kernel
theorem dX7_best_108 : decode cX7_best 108 = .ok (.iload 9, 2) := by decide +kernel
theorem dX7_best_110 : decode cX7_best 110 = .ok (.iaload, 1) := by decide +kernel
theorem dX7_best_111 : decode cX7_best 111 = .ok (.iload 4, 2) := by decide +kernel
theorem dX7_best_113 : decode cX7_best 113 = .ok (.if_icmp .ge 82, 3) := by decide +kernel
theorem dX7_best_116 : decode cX7_best 116 = .ok (.aload_n 3, 1) := by decide +kernel
theorem dX7_best_117 : decode cX7_best 117 = .ok (.iload 8, 2) := by decide +kernel
theorem dX7_best_119 : decode cX7_best 119 = .ok (.iaload, 1) := by decide +kernel
theorem dX7_best_120 : decode cX7_best 120 = .ok (.aload_n 3, 1) := by decide +kernel
theorem dX7_best_121 : decode cX7_best 121 = .ok (.iload 9, 2) := by decide +kernel
theorem dX7_best_123 : decode cX7_best 123 = .ok (.iaload, 1) := by decide +kernel
theorem dX7_best_124 : decode cX7_best 124 = .ok (.iand, 1) := by decide +kernel
theorem dX7_best_125 : decode cX7_best 125 = .ok (.ifCond .eq 6, 3) := by decide +kernel
theorem dX7_best_128 : decode cX7_best 128 = .ok (.goto 61, 3) := by decide +kernel
theorem dX7_best_131 : decode cX7_best 131 = .ok (.aload_n 0, 1) := by decide +kernel
theorem dX7_best_132 : decode cX7_best 132 = .ok (.getfield 19, 3) := by decide +kernel
theorem dX7_best_135 : decode cX7_best 135 = .ok (.aload_n 3, 1) := by decide +kernel
theorem dX7_best_136 : decode cX7_best 136 = .ok (.iload 8, 2) := by decide +kernel
theorem dX7_best_138 : decode cX7_best 138 = .ok (.iaload, 1) := by decide +kernel
theorem dX7_best_139 : decode cX7_best 139 = .ok (.aload_n 3, 1) := by decide +kernel
theorem dX7_best_140 : decode cX7_best 140 = .ok (.iload 9, 2) := by decide +kernel
theorem dX7_best_142 : decode cX7_best 142 = .ok (.iaload, 1) := by decide +kernel
theorem dX7_best_143 : decode cX7_best 143 = .ok (.aload_n 0, 1) := by decide +kernel
theorem dX7_best_144 : decode cX7_best 144 = .ok (.getfield 46, 3) := by decide +kernel
theorem dX7_best_147 : decode cX7_best 147 = .ok (.invokevirtual 258, 3) := by decide +kernel
theorem dX7_best_150 : decode cX7_best 150 = .ok (.iload 7, 2) := by decide +kernel
theorem dX7_best_152 : decode cX7_best 152 = .ok (.iconst (-1), 1) := by decide +kernel
theorem dX7_best_153 : decode cX7_best 153 = .ok (.if_icmp .eq 15, 3) := by decide +kernel
theorem dX7_best_156 : decode cX7_best 156 = .ok (.aload_n 0, 1) := by decide +kernel
theorem dX7_best_157 : decode cX7_best 157 = .ok (.getfield 46, 3) := by decide +kernel
theorem dX7_best_160 : decode cX7_best 160 = .ok (.invokevirtual 269, 3) := by decide +kernel
theorem dX7_best_163 : decode cX7_best 163 = .ok (.iload 7, 2) := by decide +kernel
theorem dX7_best_165 : decode cX7_best 165 = .ok (.if_icmp .ge 24, 3) := by decide +kernel
theorem dX7_best_168 : decode cX7_best 168 = .ok (.aload_n 0, 1) := by decide +kernel
theorem dX7_best_169 : decode cX7_best 169 = .ok (.getfield 46, 3) := by decide +kernel
theorem dX7_best_172 : decode cX7_best 172 = .ok (.invokevirtual 269, 3) := by decide +kernel
theorem dX7_best_175 : decode cX7_best 175 = .ok (.istore 7, 2) := by decide +kernel
theorem dX7_best_177 : decode cX7_best 177 = .ok (.aload_n 3, 1) := by decide +kernel
theorem dX7_best_178 : decode cX7_best 178 = .ok (.iload 8, 2) := by decide +kernel
theorem dX7_best_180 : decode cX7_best 180 = .ok (.iaload, 1) := by decide +kernel
theorem dX7_best_181 : decode cX7_best 181 = .ok (.istore 5, 2) := by decide +kernel
theorem dX7_best_183 : decode cX7_best 183 = .ok (.aload_n 3, 1) := by decide +kernel
theorem dX7_best_184 : decode cX7_best 184 = .ok (.iload 9, 2) := by decide +kernel
theorem dX7_best_186 : decode cX7_best 186 = .ok (.iaload, 1) := by decide +kernel
theorem dX7_best_187 : decode cX7_best 187 = .ok (.istore 6, 2) := by decide +kernel
theorem dX7_best_189 : decode cX7_best 189 = .ok (.iinc 9 1, 3) := by decide +kernel
theorem dX7_best_192 : decode cX7_best 192 = .ok (.goto (-92), 3) := by decide +kernel
theorem dX7_best_195 : decode cX7_best 195 = .ok (.iinc 8 1, 3) := by decide +kernel
theorem dX7_best_198 : decode cX7_best 198 = .ok (.goto (-117), 3) := by decide +kernel
theorem dX7_best_201 : decode cX7_best 201 = .ok (.iload_n 2, 1) := by decide +kernel
theorem dX7_best_202 : decode cX7_best 202 = .ok (.ifCond .ne 8, 3) := by decide +kernel
theorem dX7_best_205 : decode cX7_best 205 = .ok (.iload 5, 2) := by decide +kernel
theorem dX7_best_207 : decode cX7_best 207 = .ok (.goto 15, 3) := by decide +kernel
theorem dX7_best_210 : decode cX7_best 210 = .ok (.iload_n 2, 1) := by decide +kernel
theorem dX7_best_211 : decode cX7_best 211 = .ok (.iconst 1, 1) := by decide +kernel
theorem dX7_best_212 : decode cX7_best 212 = .ok (.if_icmp .ne 8, 3) := by decide +kernel
theorem dX7_best_215 : decode cX7_best 215 = .ok (.iload 6, 2) := by decide +kernel
theorem dX7_best_217 : decode cX7_best 217 = .ok (.goto 5, 3) := by decide +kernel
theorem dX7_best_220 : decode cX7_best 220 = .ok (.iload 7, 2) := by decide +kernel
theorem dX7_best_222 : decode cX7_best 222 = .ok (.ireturn, 1) := by decide +kernel
theorem dX7_sharpest_0 : decode cX7_sharpest 0 = .ok (.iconst 0, 1) := by decide +kernel
theorem dX7_sharpest_1 : decode cX7_sharpest 1 = .ok (.istore_n 1, 1) := by decide +kernel
theorem dX7_sharpest_2 : decode cX7_sharpest 2 = .ok (.iconst (-1), 1) := by decide +kernel
theorem dX7_sharpest_3 : decode cX7_sharpest 3 = .ok (.istore_n 2, 1) := by decide +kernel
theorem dX7_sharpest_4 : decode cX7_sharpest 4 = .ok (.iconst 0, 1) := by decide +kernel
theorem dX7_sharpest_5 : decode cX7_sharpest 5 = .ok (.istore_n 3, 1) := by decide +kernel
theorem dX7_sharpest_6 : decode cX7_sharpest 6 = .ok (.iload_n 3, 1) := by decide +kernel
theorem dX7_sharpest_7 : decode cX7_sharpest 7 = .ok (.aload_n 0, 1) := by decide +kernel
theorem dX7_sharpest_8 : decode cX7_sharpest 8 = .ok (.getfield 19, 3) := by decide +kernel
theorem dX7_sharpest_11 : decode cX7_sharpest 11 = .ok (.getfield 145, 3) := by decide +kernel
theorem dX7_sharpest_14 : decode cX7_sharpest 14 = .ok (.if_icmp .ge 109, 3) := by decide +kernel
theorem dX7_sharpest_17 : decode cX7_sharpest 17 = .ok (.iconst 0, 1) := by decide +kernel
theorem dX7_sharpest_18 : decode cX7_sharpest 18 = .ok (.istore 4, 2) := by decide +kernel
theorem dX7_sharpest_20 : decode cX7_sharpest 20 = .ok (.iload 4, 2) := by decide +kernel
theorem dX7_sharpest_22 : decode cX7_sharpest 22 = .ok (.bipush 12, 2) := by decide +kernel
theorem dX7_sharpest_24 : decode cX7_sharpest 24 = .ok (.if_icmp .gt 93, 3) := by decide +kernel
theorem dX7_sharpest_27 : decode cX7_sharpest 27 = .ok (.iload 4, 2) := by decide +kernel
theorem dX7_sharpest_29 : decode cX7_sharpest 29 = .ok (.iload_n 3, 1) := by decide +kernel
theorem dX7_sharpest_30 : decode cX7_sharpest 30 = .ok (.if_icmp .eq 81, 3) := by decide +kernel
theorem dX7_sharpest_33 : decode cX7_sharpest 33 = .ok (.iload 4, 2) := by decide +kernel
theorem dX7_sharpest_35 : decode cX7_sharpest 35 = .ok (.aload_n 0, 1) := by decide +kernel
theorem dX7_sharpest_36 : decode cX7_sharpest 36 = .ok (.getfield 19, 3) := by decide +kernel
theorem dX7_sharpest_39 : decode cX7_sharpest 39 = .ok (.getfield 145, 3) := by decide +kernel
theorem dX7_sharpest_42 : decode cX7_sharpest 42 = .ok (.if_icmp .lt 13, 3) := by decide +kernel
theorem dX7_sharpest_45 : decode cX7_sharpest 45 = .ok (.iload 4, 2) := by decide +kernel
theorem dX7_sharpest_47 : decode cX7_sharpest 47 = .ok (.bipush 12, 2) := by decide +kernel
theorem dX7_sharpest_49 : decode cX7_sharpest 49 = .ok (.if_icmp .ge 6, 3) := by decide +kernel
theorem dX7_sharpest_52 : decode cX7_sharpest 52 = .ok (.goto 59, 3) := by decide +kernel
theorem dX7_sharpest_55 : decode cX7_sharpest 55 = .ok (.aload_n 0, 1) := by decide +kernel
theorem dX7_sharpest_56 : decode cX7_sharpest 56 = .ok (.getfield 19, 3) := by decide +kernel
theorem dX7_sharpest_59 : decode cX7_sharpest 59 = .ok (.iconst 1, 1) := by decide +kernel
theorem dX7_sharpest_60 : decode cX7_sharpest 60 = .ok (.iload_n 3, 1) := by decide +kernel
theorem dX7_sharpest_61 : decode cX7_sharpest 61 = .ok (.ishl, 1) := by decide +kernel
theorem dX7_sharpest_62 : decode cX7_sharpest 62 = .ok (.iload 4, 2) := by decide +kernel
theorem dX7_sharpest_64 : decode cX7_sharpest 64 = .ok (.bipush 12, 2) := by decide +kernel
theorem dX7_sharpest_66 : decode cX7_sharpest 66 = .ok (.if_icmp .ge 10, 3) := by decide +kernel
theorem dX7_sharpest_69 : decode cX7_sharpest 69 = .ok (.iconst 1, 1) := by decide +kernel
theorem dX7_sharpest_70 : decode cX7_sharpest 70 = .ok (.iload 4, 2) := by decide +kernel
theorem dX7_sharpest_72 : decode cX7_sharpest 72 = .ok (.ishl, 1) := by decide +kernel
theorem dX7_sharpest_73 : decode cX7_sharpest 73 = .ok (.goto 4, 3) := by decide +kernel
theorem dX7_sharpest_76 : decode cX7_sharpest 76 = .ok (.iconst 0, 1) := by decide +kernel
theorem dX7_sharpest_77 : decode cX7_sharpest 77 = .ok (.aload_n 0, 1) := by decide +kernel
theorem dX7_sharpest_78 : decode cX7_sharpest 78 = .ok (.getfield 46, 3) := by decide +kernel
theorem dX7_sharpest_81 : decode cX7_sharpest 81 = .ok (.invokevirtual 258, 3) := by decide +kernel
theorem dX7_sharpest_84 : decode cX7_sharpest 84 = .ok (.aload_n 0, 1) := by decide +kernel
theorem dX7_sharpest_85 : decode cX7_sharpest 85 = .ok (.getfield 46, 3) := by decide +kernel
theorem dX7_sharpest_88 : decode cX7_sharpest 88 = .ok (.invokevirtual 272, 3) := by decide +kernel
theorem dX7_sharpest_91 : decode cX7_sharpest 91 = .ok (.iload_n 1, 1) := by decide +kernel
theorem dX7_sharpest_92 : decode cX7_sharpest 92 = .ok (.if_icmp .le 19, 3) := by decide +kernel
theorem dX7_sharpest_95 : decode cX7_sharpest 95 = .ok (.aload_n 0, 1) := by decide +kernel
theorem dX7_sharpest_96 : decode cX7_sharpest 96 = .ok (.getfield 46, 3) := by decide +kernel
theorem dX7_sharpest_99 : decode cX7_sharpest 99 = .ok (.invokevirtual 272, 3) := by decide +kernel
theorem dX7_sharpest_102 : decode cX7_sharpest 102 = .ok (.istore_n 1, 1) := by decide +kernel
theorem dX7_sharpest_103 : decode cX7_sharpest 103 = .ok (.bipush 100, 2) := by decide +kernel
theorem dX7_sharpest_105 : decode cX7_sharpest 105 = .ok (.iload_n 3, 1) := by decide +kernel
theorem dX7_sharpest_106 : decode cX7_sharpest 106 = .ok (.imul, 1) := by decide +kernel
theorem dX7_sharpest_107 : decode cX7_sharpest 107 = .ok (.iload 4, 2) := by decide +kernel
theorem dX7_sharpest_109 : decode cX7_sharpest 109 = .ok (.iadd, 1) := by decide +kernel
theorem dX7_sharpest_110 : decode cX7_sharpest 110 = .ok (.istore_n 2, 1) := by decide +kernel
theorem dX7_sharpest_111 : decode cX7_sharpest 111 = .ok (.iinc 4 1, 3) := by decide +kernel
theorem dX7_sharpest_114 : decode cX7_sharpest 114 = .ok (.goto (-94), 3) := by decide +kernel
theorem dX7_sharpest_117 : decode cX7_sharpest 117 = .ok (.iinc 3 1, 3) := by decide +kernel
theorem dX7_sharpest_120 : decode cX7_sharpest 120 = .ok (.goto (-114), 3) := by decide +kernel
theorem dX7_sharpest_123 : decode cX7_sharpest 123 = .ok (.iload_n 2, 1) := by decide +kernel
theorem dX7_sharpest_124 : decode cX7_sharpest 124 = .ok (.ireturn, 1) := by decide +kernel
theorem dX7_needs_0 : decode cX7_needs 0 = .ok (.aload_n 0, 1) := by decide +kernel
theorem dX7_needs_1 : decode cX7_needs 1 = .ok (.getfield 19, 3) := by decide +kernel
theorem dX7_needs_4 : decode cX7_needs 4 = .ok (.getfield 149, 3) := by decide +kernel
theorem dX7_needs_7 : decode cX7_needs 7 = .ok (.invokevirtual 153, 3) := by decide +kernel
theorem dX7_needs_10 : decode cX7_needs 10 = .ok (.invokestatic 275, 3) := by decide +kernel
theorem dX7_needs_13 : decode cX7_needs 13 = .ok (.ireturn, 1) := by decide +kernel
theorem dX7_bestArms_0 : decode cX7_bestArms 0 = .ok (.aload_n 0, 1) := by decide +kernel
theorem dX7_bestArms_1 : decode cX7_bestArms 1 = .ok (.iload_n 1, 1) := by decide +kernel
theorem dX7_bestArms_2 : decode cX7_bestArms 2 = .ok (.iload_n 2, 1) := by decide +kernel
theorem dX7_bestArms_3 : decode cX7_bestArms 3 = .ok (.invokevirtual 221, 3) := by decide +kernel
theorem dX7_bestArms_6 : decode cX7_bestArms 6 = .ok (.iconst (-1), 1) := by decide +kernel
theorem dX7_bestArms_7 : decode cX7_bestArms 7 = .ok (.istore_n 3, 1) := by decide +kernel
theorem dX7_bestArms_8 : decode cX7_bestArms 8 = .ok (.iconst (-1), 1) := by decide +kernel
theorem dX7_bestArms_9 : decode cX7_bestArms 9 = .ok (.istore 4, 2) := by decide +kernel
theorem dX7_bestArms_11 : decode cX7_bestArms 11 = .ok (.iconst 1, 1) := by decide +kernel
theorem dX7_bestArms_12 : decode cX7_bestArms 12 = .ok (.istore 5, 2) := by decide +kernel
theorem dX7_bestArms_14 : decode cX7_bestArms 14 = .ok (.iload 5, 2) := by decide +kernel
theorem dX7_bestArms_16 : decode cX7_bestArms 16 = .ok (.bipush 20, 2) := by decide +kernel
theorem dX7_bestArms_18 : decode cX7_bestArms 18 = .ok (.if_icmp .gt 76, 3) := by decide +kernel
theorem dX7_bestArms_21 : decode cX7_bestArms 21 = .ok (.iconst 1, 1) := by decide +kernel
theorem dX7_bestArms_22 : decode cX7_bestArms 22 = .ok (.istore 6, 2) := by decide +kernel
theorem dX7_bestArms_24 : decode cX7_bestArms 24 = .ok (.iload 6, 2) := by decide +kernel
theorem dX7_bestArms_26 : decode cX7_bestArms 26 = .ok (.bipush 20, 2) := by decide +kernel
theorem dX7_bestArms_28 : decode cX7_bestArms 28 = .ok (.if_icmp .gt 60, 3) := by decide +kernel
theorem dX7_bestArms_31 : decode cX7_bestArms 31 = .ok (.aload_n 0, 1) := by decide +kernel
theorem dX7_bestArms_32 : decode cX7_bestArms 32 = .ok (.getfield 19, 3) := by decide +kernel
theorem dX7_bestArms_35 : decode cX7_bestArms 35 = .ok (.iload_n 1, 1) := by decide +kernel
theorem dX7_bestArms_36 : decode cX7_bestArms 36 = .ok (.iload_n 2, 1) := by decide +kernel
theorem dX7_bestArms_37 : decode cX7_bestArms 37 = .ok (.iload 5, 2) := by decide +kernel
theorem dX7_bestArms_39 : decode cX7_bestArms 39 = .ok (.iload 6, 2) := by decide +kernel
theorem dX7_bestArms_41 : decode cX7_bestArms 41 = .ok (.aload_n 0, 1) := by decide +kernel
theorem dX7_bestArms_42 : decode cX7_bestArms 42 = .ok (.getfield 46, 3) := by decide +kernel
theorem dX7_bestArms_45 : decode cX7_bestArms 45 = .ok (.invokevirtual 278, 3) := by decide +kernel
theorem dX7_bestArms_48 : decode cX7_bestArms 48 = .ok (.iload_n 3, 1) := by decide +kernel
theorem dX7_bestArms_49 : decode cX7_bestArms 49 = .ok (.iconst (-1), 1) := by decide +kernel
theorem dX7_bestArms_50 : decode cX7_bestArms 50 = .ok (.if_icmp .eq 14, 3) := by decide +kernel
theorem dX7_bestArms_53 : decode cX7_bestArms 53 = .ok (.aload_n 0, 1) := by decide +kernel
theorem dX7_bestArms_54 : decode cX7_bestArms 54 = .ok (.getfield 46, 3) := by decide +kernel
theorem dX7_bestArms_57 : decode cX7_bestArms 57 = .ok (.invokevirtual 269, 3) := by decide +kernel
theorem dX7_bestArms_60 : decode cX7_bestArms 60 = .ok (.iload_n 3, 1) := by decide +kernel
theorem dX7_bestArms_61 : decode cX7_bestArms 61 = .ok (.if_icmp .ge 21, 3) := by decide +kernel
theorem dX7_bestArms_64 : decode cX7_bestArms 64 = .ok (.aload_n 0, 1) := by decide +kernel
theorem dX7_bestArms_65 : decode cX7_bestArms 65 = .ok (.getfield 46, 3) := by decide +kernel
theorem dX7_bestArms_68 : decode cX7_bestArms 68 = .ok (.invokevirtual 269, 3) := by decide +kernel
theorem dX7_bestArms_71 : decode cX7_bestArms 71 = .ok (.istore_n 3, 1) := by decide +kernel
theorem dX7_bestArms_72 : decode cX7_bestArms 72 = .ok (.bipush 100, 2) := by decide +kernel
theorem dX7_bestArms_74 : decode cX7_bestArms 74 = .ok (.iload 5, 2) := by decide +kernel
theorem dX7_bestArms_76 : decode cX7_bestArms 76 = .ok (.imul, 1) := by decide +kernel
theorem dX7_bestArms_77 : decode cX7_bestArms 77 = .ok (.iload 6, 2) := by decide +kernel
theorem dX7_bestArms_79 : decode cX7_bestArms 79 = .ok (.iadd, 1) := by decide +kernel
theorem dX7_bestArms_80 : decode cX7_bestArms 80 = .ok (.istore 4, 2) := by decide +kernel
theorem dX7_bestArms_82 : decode cX7_bestArms 82 = .ok (.iinc 6 1, 3) := by decide +kernel
theorem dX7_bestArms_85 : decode cX7_bestArms 85 = .ok (.goto (-61), 3) := by decide +kernel
theorem dX7_bestArms_88 : decode cX7_bestArms 88 = .ok (.iinc 5 1, 3) := by decide +kernel
theorem dX7_bestArms_91 : decode cX7_bestArms 91 = .ok (.goto (-77), 3) := by decide +kernel
theorem dX7_bestArms_94 : decode cX7_bestArms 94 = .ok (.iload 4, 2) := by decide +kernel
theorem dX7_bestArms_96 : decode cX7_bestArms 96 = .ok (.ireturn, 1) := by decide +kernel
theorem dX7_runScript_0 : decode cX7_runScript 0 = .ok (.iload_n 1, 1) := by decide +kernel
theorem dX7_runScript_1 : decode cX7_runScript 1 = .ok (.iconst 1, 1) := by decide +kernel
theorem dX7_runScript_2 : decode cX7_runScript 2 = .ok (.if_icmp .lt 8, 3) := by decide +kernel
theorem dX7_runScript_5 : decode cX7_runScript 5 = .ok (.iload_n 1, 1) := by decide +kernel
theorem dX7_runScript_6 : decode cX7_runScript 6 = .ok (.iconst 3, 1) := by decide +kernel
theorem dX7_runScript_7 : decode cX7_runScript 7 = .ok (.if_icmp .le 14, 3) := by decide +kernel
theorem dX7_runScript_10 : decode cX7_runScript 10 = .ok (.new 67, 3) := by decide +kernel
theorem dX7_runScript_13 : decode cX7_runScript 13 = .ok (.dup, 1) := by decide +kernel
theorem dX7_runScript_14 : decode cX7_runScript 14 = .ok (.ldc_w 282, 3) := by decide +kernel
theorem dX7_runScript_17 : decode cX7_runScript 17 = .ok (.invokespecial 71, 3) := by decide +kernel
theorem dX7_runScript_20 : decode cX7_runScript 20 = .ok (.athrow, 1) := by decide +kernel
theorem dX7_runScript_21 : decode cX7_runScript 21 = .ok (.lload_n 2, 1) := by decide +kernel
theorem dX7_runScript_22 : decode cX7_runScript 22 = .ok (.lconst 0, 1) := by decide +kernel
theorem dX7_runScript_23 : decode cX7_runScript 23 = .ok (.lcmp, 1) := by decide +kernel
theorem dX7_runScript_24 : decode cX7_runScript 24 = .ok (.ifCond .lt 13, 3) := by decide +kernel
theorem dX7_runScript_27 : decode cX7_runScript 27 = .ok (.lload_n 2, 1) := by decide +kernel
theorem dX7_runScript_28 : decode cX7_runScript 28 = .ok (.iload_n 1, 1) := by decide +kernel
theorem dX7_runScript_29 : decode cX7_runScript 29 = .ok (.invokestatic 284, 3) := by decide +kernel
theorem dX7_runScript_32 : decode cX7_runScript 32 = .ok (.lconst 0, 1) := by decide +kernel
theorem dX7_runScript_33 : decode cX7_runScript 33 = .ok (.lcmp, 1) := by decide +kernel
theorem dX7_runScript_34 : decode cX7_runScript 34 = .ok (.ifCond .eq 14, 3) := by decide +kernel
theorem dX7_runScript_37 : decode cX7_runScript 37 = .ok (.new 67, 3) := by decide +kernel
theorem dX7_runScript_40 : decode cX7_runScript 40 = .ok (.dup, 1) := by decide +kernel
theorem dX7_runScript_41 : decode cX7_runScript 41 = .ok (.ldc_w 288, 3) := by decide +kernel
theorem dX7_runScript_44 : decode cX7_runScript 44 = .ok (.invokespecial 71, 3) := by decide +kernel
theorem dX7_runScript_47 : decode cX7_runScript 47 = .ok (.athrow, 1) := by decide +kernel
theorem dX7_runScript_48 : decode cX7_runScript 48 = .ok (.aload_n 0, 1) := by decide +kernel
theorem dX7_runScript_49 : decode cX7_runScript 49 = .ok (.getfield 23, 3) := by decide +kernel
theorem dX7_runScript_52 : decode cX7_runScript 52 = .ok (.aload_n 0, 1) := by decide +kernel
theorem dX7_runScript_53 : decode cX7_runScript 53 = .ok (.getfield 19, 3) := by decide +kernel
theorem dX7_runScript_56 : decode cX7_runScript 56 = .ok (.invokevirtual 290, 3) := by decide +kernel
theorem dX7_runScript_59 : decode cX7_runScript 59 = .ok (.iconst 0, 1) := by decide +kernel
theorem dX7_runScript_60 : decode cX7_runScript 60 = .ok (.istore 4, 2) := by decide +kernel
theorem dX7_runScript_62 : decode cX7_runScript 62 = .ok (.iload 4, 2) := by decide +kernel
theorem dX7_runScript_64 : decode cX7_runScript 64 = .ok (.iload_n 1, 1) := by decide +kernel
theorem dX7_runScript_65 : decode cX7_runScript 65 = .ok (.if_icmp .ge 34, 3) := by decide +kernel
theorem dX7_runScript_68 : decode cX7_runScript 68 = .ok (.aload_n 0, 1) := by decide +kernel
theorem dX7_runScript_69 : decode cX7_runScript 69 = .ok (.lload_n 2, 1) := by decide +kernel
theorem dX7_runScript_70 : decode cX7_runScript 70 = .ok (.iload_n 1, 1) := by decide +kernel
theorem dX7_runScript_71 : decode cX7_runScript 71 = .ok (.iconst 1, 1) := by decide +kernel
theorem dX7_runScript_72 : decode cX7_runScript 72 = .ok (.isub, 1) := by decide +kernel
theorem dX7_runScript_73 : decode cX7_runScript 73 = .ok (.iload 4, 2) := by decide +kernel
theorem dX7_runScript_75 : decode cX7_runScript 75 = .ok (.isub, 1) := by decide +kernel
theorem dX7_runScript_76 : decode cX7_runScript 76 = .ok (.invokestatic 284, 3) := by decide +kernel
theorem dX7_runScript_79 : decode cX7_runScript 79 = .ok (.ldc2_w 293, 3) := by decide +kernel
theorem dX7_runScript_82 : decode cX7_runScript 82 = .ok (.lrem, 1) := by decide +kernel
theorem dX7_runScript_83 : decode cX7_runScript 83 = .ok (.l2i, 1) := by decide +kernel
theorem dX7_runScript_84 : decode cX7_runScript 84 = .ok (.invokevirtual 295, 3) := by decide +kernel
theorem dX7_runScript_87 : decode cX7_runScript 87 = .ok (.ifCond .ne 6, 3) := by decide +kernel
theorem dX7_runScript_90 : decode cX7_runScript 90 = .ok (.iload 4, 2) := by decide +kernel
theorem dX7_runScript_92 : decode cX7_runScript 92 = .ok (.ireturn, 1) := by decide +kernel
theorem dX7_runScript_93 : decode cX7_runScript 93 = .ok (.iinc 4 1, 3) := by decide +kernel
theorem dX7_runScript_96 : decode cX7_runScript 96 = .ok (.goto (-34), 3) := by decide +kernel
theorem dX7_runScript_99 : decode cX7_runScript 99 = .ok (.iconst (-1), 1) := by decide +kernel
theorem dX7_runScript_100 : decode cX7_runScript 100 = .ok (.ireturn, 1) := by decide +kernel
theorem dX7_simulate_0 : decode cX7_simulate 0 = .ok (.iload_n 3, 1) := by decide +kernel
theorem dX7_simulate_1 : decode cX7_simulate 1 = .ok (.iconst 1, 1) := by decide +kernel
theorem dX7_simulate_2 : decode cX7_simulate 2 = .ok (.if_icmp .lt 9, 3) := by decide +kernel
theorem dX7_simulate_5 : decode cX7_simulate 5 = .ok (.iload_n 3, 1) := by decide +kernel
theorem dX7_simulate_6 : decode cX7_simulate 6 = .ok (.bipush 60, 2) := by decide +kernel
theorem dX7_simulate_8 : decode cX7_simulate 8 = .ok (.if_icmp .le 14, 3) := by decide +kernel
theorem dX7_simulate_11 : decode cX7_simulate 11 = .ok (.new 67, 3) := by decide +kernel
theorem dX7_simulate_14 : decode cX7_simulate 14 = .ok (.dup, 1) := by decide +kernel
theorem dX7_simulate_15 : decode cX7_simulate 15 = .ok (.ldc_w 298, 3) := by decide +kernel
theorem dX7_simulate_18 : decode cX7_simulate 18 = .ok (.invokespecial 71, 3) := by decide +kernel
theorem dX7_simulate_21 : decode cX7_simulate 21 = .ok (.athrow, 1) := by decide +kernel
theorem dX7_simulate_22 : decode cX7_simulate 22 = .ok (.aload_n 0, 1) := by decide +kernel
theorem dX7_simulate_23 : decode cX7_simulate 23 = .ok (.getfield 23, 3) := by decide +kernel
theorem dX7_simulate_26 : decode cX7_simulate 26 = .ok (.aload_n 0, 1) := by decide +kernel
theorem dX7_simulate_27 : decode cX7_simulate 27 = .ok (.getfield 19, 3) := by decide +kernel
theorem dX7_simulate_30 : decode cX7_simulate 30 = .ok (.invokevirtual 290, 3) := by decide +kernel
theorem dX7_simulate_33 : decode cX7_simulate 33 = .ok (.lload_n 1, 1) := by decide +kernel
theorem dX7_simulate_34 : decode cX7_simulate 34 = .ok (.lstore 4, 2) := by decide +kernel
theorem dX7_simulate_36 : decode cX7_simulate 36 = .ok (.iconst 0, 1) := by decide +kernel
theorem dX7_simulate_37 : decode cX7_simulate 37 = .ok (.istore 6, 2) := by decide +kernel
theorem dX7_simulate_39 : decode cX7_simulate 39 = .ok (.iload 6, 2) := by decide +kernel
theorem dX7_simulate_41 : decode cX7_simulate 41 = .ok (.iload_n 3, 1) := by decide +kernel
theorem dX7_simulate_42 : decode cX7_simulate 42 = .ok (.if_icmp .ge 31, 3) := by decide +kernel
theorem dX7_simulate_45 : decode cX7_simulate 45 = .ok (.lload 4, 2) := by decide +kernel
theorem dX7_simulate_47 : decode cX7_simulate 47 = .ok (.ldc2_w 300, 3) := by decide +kernel
theorem dX7_simulate_50 : decode cX7_simulate 50 = .ok (.lmul, 1) := by decide +kernel
theorem dX7_simulate_51 : decode cX7_simulate 51 = .ok (.ldc2_w 302, 3) := by decide +kernel
theorem dX7_simulate_54 : decode cX7_simulate 54 = .ok (.ladd, 1) := by decide +kernel
theorem dX7_simulate_55 : decode cX7_simulate 55 = .ok (.lstore 4, 2) := by decide +kernel
theorem dX7_simulate_57 : decode cX7_simulate 57 = .ok (.aload_n 0, 1) := by decide +kernel
theorem dX7_simulate_58 : decode cX7_simulate 58 = .ok (.lload 4, 2) := by decide +kernel
theorem dX7_simulate_60 : decode cX7_simulate 60 = .ok (.bipush 33, 2) := by decide +kernel
theorem dX7_simulate_62 : decode cX7_simulate 62 = .ok (.lushr, 1) := by decide +kernel
theorem dX7_simulate_63 : decode cX7_simulate 63 = .ok (.l2i, 1) := by decide +kernel
theorem dX7_simulate_64 : decode cX7_simulate 64 = .ok (.invokevirtual 304, 3) := by decide +kernel
theorem dX7_simulate_67 : decode cX7_simulate 67 = .ok (.iinc 6 1, 3) := by decide +kernel
theorem dX7_simulate_70 : decode cX7_simulate 70 = .ok (.goto (-31), 3) := by decide +kernel
theorem dX7_simulate_73 : decode cX7_simulate 73 = .ok (.sipush 1000, 3) := by decide +kernel
theorem dX7_simulate_76 : decode cX7_simulate 76 = .ok (.aload_n 0, 1) := by decide +kernel
theorem dX7_simulate_77 : decode cX7_simulate 77 = .ok (.getfield 23, 3) := by decide +kernel
theorem dX7_simulate_80 : decode cX7_simulate 80 = .ok (.getfield 158, 3) := by decide +kernel
theorem dX7_simulate_83 : decode cX7_simulate 83 = .ok (.imul, 1) := by decide +kernel
theorem dX7_simulate_84 : decode cX7_simulate 84 = .ok (.aload_n 0, 1) := by decide +kernel
theorem dX7_simulate_85 : decode cX7_simulate 85 = .ok (.getfield 23, 3) := by decide +kernel
theorem dX7_simulate_88 : decode cX7_simulate 88 = .ok (.getfield 149, 3) := by decide +kernel
theorem dX7_simulate_91 : decode cX7_simulate 91 = .ok (.invokevirtual 153, 3) := by decide +kernel
theorem dX7_simulate_94 : decode cX7_simulate 94 = .ok (.iadd, 1) := by decide +kernel
theorem dX7_simulate_95 : decode cX7_simulate 95 = .ok (.ireturn, 1) := by decide +kernel
theorem dX7_save_0 : decode cX7_save 0 = .ok (.iload_n 1, 1) := by decide +kernel
theorem dX7_save_1 : decode cX7_save 1 = .ok (.ifCond .lt 8, 3) := by decide +kernel
theorem dX7_save_4 : decode cX7_save 4 = .ok (.iload_n 1, 1) := by decide +kernel
theorem dX7_save_5 : decode cX7_save 5 = .ok (.iconst 2, 1) := by decide +kernel
theorem dX7_save_6 : decode cX7_save 6 = .ok (.if_icmp .lt 14, 3) := by decide +kernel
theorem dX7_save_9 : decode cX7_save 9 = .ok (.new 182, 3) := by decide +kernel
theorem dX7_save_12 : decode cX7_save 12 = .ok (.dup, 1) := by decide +kernel
theorem dX7_save_13 : decode cX7_save 13 = .ok (.ldc_w 308, 3) := by decide +kernel
theorem dX7_save_16 : decode cX7_save 16 = .ok (.invokespecial 186, 3) := by decide +kernel
theorem dX7_save_19 : decode cX7_save 19 = .ok (.athrow, 1) := by decide +kernel
theorem dX7_save_20 : decode cX7_save 20 = .ok (.iload_n 1, 1) := by decide +kernel
theorem dX7_save_21 : decode cX7_save 21 = .ok (.ifCond .ne 10, 3) := by decide +kernel
theorem dX7_save_24 : decode cX7_save 24 = .ok (.aload_n 0, 1) := by decide +kernel
theorem dX7_save_25 : decode cX7_save 25 = .ok (.getfield 36, 3) := by decide +kernel
theorem dX7_save_28 : decode cX7_save 28 = .ok (.goto 7, 3) := by decide +kernel
theorem dX7_save_31 : decode cX7_save 31 = .ok (.aload_n 0, 1) := by decide +kernel
theorem dX7_save_32 : decode cX7_save 32 = .ok (.getfield 40, 3) := by decide +kernel
theorem dX7_save_35 : decode cX7_save 35 = .ok (.astore_n 2, 1) := by decide +kernel
theorem dX7_save_36 : decode cX7_save 36 = .ok (.aload_n 2, 1) := by decide +kernel
theorem dX7_save_37 : decode cX7_save 37 = .ok (.getfield 310, 3) := by decide +kernel
theorem dX7_save_40 : decode cX7_save 40 = .ok (.aload_n 0, 1) := by decide +kernel
theorem dX7_save_41 : decode cX7_save 41 = .ok (.getfield 19, 3) := by decide +kernel
theorem dX7_save_44 : decode cX7_save 44 = .ok (.invokevirtual 290, 3) := by decide +kernel
theorem dX7_save_47 : decode cX7_save 47 = .ok (.aload_n 2, 1) := by decide +kernel
theorem dX7_save_48 : decode cX7_save 48 = .ok (.iconst 1, 1) := by decide +kernel
theorem dX7_save_49 : decode cX7_save 49 = .ok (.putfield 113, 3) := by decide +kernel
theorem dX7_save_52 : decode cX7_save 52 = .ok (.aload_n 0, 1) := by decide +kernel
theorem dX7_save_53 : decode cX7_save 53 = .ok (.getfield 19, 3) := by decide +kernel
theorem dX7_save_56 : decode cX7_save 56 = .ok (.getfield 149, 3) := by decide +kernel
theorem dX7_save_59 : decode cX7_save 59 = .ok (.invokevirtual 153, 3) := by decide +kernel
theorem dX7_save_62 : decode cX7_save 62 = .ok (.ireturn, 1) := by decide +kernel
theorem dX7_restore_0 : decode cX7_restore 0 = .ok (.iload_n 1, 1) := by decide +kernel
theorem dX7_restore_1 : decode cX7_restore 1 = .ok (.ifCond .lt 8, 3) := by decide +kernel
theorem dX7_restore_4 : decode cX7_restore 4 = .ok (.iload_n 1, 1) := by decide +kernel
theorem dX7_restore_5 : decode cX7_restore 5 = .ok (.iconst 2, 1) := by decide +kernel
theorem dX7_restore_6 : decode cX7_restore 6 = .ok (.if_icmp .lt 14, 3) := by decide +kernel
theorem dX7_restore_9 : decode cX7_restore 9 = .ok (.new 182, 3) := by decide +kernel
theorem dX7_restore_12 : decode cX7_restore 12 = .ok (.dup, 1) := by decide +kernel
theorem dX7_restore_13 : decode cX7_restore 13 = .ok (.ldc_w 308, 3) := by decide +kernel
theorem dX7_restore_16 : decode cX7_restore 16 = .ok (.invokespecial 186, 3) := by decide +kernel
theorem dX7_restore_19 : decode cX7_restore 19 = .ok (.athrow, 1) := by decide +kernel
theorem dX7_restore_20 : decode cX7_restore 20 = .ok (.iload_n 1, 1) := by decide +kernel
theorem dX7_restore_21 : decode cX7_restore 21 = .ok (.ifCond .ne 10, 3) := by decide +kernel
theorem dX7_restore_24 : decode cX7_restore 24 = .ok (.aload_n 0, 1) := by decide +kernel
theorem dX7_restore_25 : decode cX7_restore 25 = .ok (.getfield 36, 3) := by decide +kernel
theorem dX7_restore_28 : decode cX7_restore 28 = .ok (.goto 7, 3) := by decide +kernel
theorem dX7_restore_31 : decode cX7_restore 31 = .ok (.aload_n 0, 1) := by decide +kernel
theorem dX7_restore_32 : decode cX7_restore 32 = .ok (.getfield 40, 3) := by decide +kernel
theorem dX7_restore_35 : decode cX7_restore 35 = .ok (.astore_n 2, 1) := by decide +kernel
theorem dX7_restore_36 : decode cX7_restore 36 = .ok (.aload_n 2, 1) := by decide +kernel
theorem dX7_restore_37 : decode cX7_restore 37 = .ok (.getfield 113, 3) := by decide +kernel
theorem dX7_restore_40 : decode cX7_restore 40 = .ok (.ifCond .ne 14, 3) := by decide +kernel
theorem dX7_restore_43 : decode cX7_restore 43 = .ok (.new 78, 3) := by decide +kernel
theorem dX7_restore_46 : decode cX7_restore 46 = .ok (.dup, 1) := by decide +kernel
theorem dX7_restore_47 : decode cX7_restore 47 = .ok (.ldc_w 313, 3) := by decide +kernel
theorem dX7_restore_50 : decode cX7_restore 50 = .ok (.invokespecial 82, 3) := by decide +kernel
theorem dX7_restore_53 : decode cX7_restore 53 = .ok (.athrow, 1) := by decide +kernel
theorem dX7_restore_54 : decode cX7_restore 54 = .ok (.aload_n 0, 1) := by decide +kernel
theorem dX7_restore_55 : decode cX7_restore 55 = .ok (.getfield 19, 3) := by decide +kernel
theorem dX7_restore_58 : decode cX7_restore 58 = .ok (.aload_n 2, 1) := by decide +kernel
theorem dX7_restore_59 : decode cX7_restore 59 = .ok (.getfield 310, 3) := by decide +kernel
theorem dX7_restore_62 : decode cX7_restore 62 = .ok (.invokevirtual 290, 3) := by decide +kernel
theorem dX7_restore_65 : decode cX7_restore 65 = .ok (.aload_n 0, 1) := by decide +kernel
theorem dX7_restore_66 : decode cX7_restore 66 = .ok (.getfield 29, 3) := by decide +kernel
theorem dX7_restore_69 : decode cX7_restore 69 = .ok (.invokevirtual 110, 3) := by decide +kernel
theorem dX7_restore_72 : decode cX7_restore 72 = .ok (.aload_n 0, 1) := by decide +kernel
theorem dX7_restore_73 : decode cX7_restore 73 = .ok (.getfield 19, 3) := by decide +kernel
theorem dX7_restore_76 : decode cX7_restore 76 = .ok (.getfield 149, 3) := by decide +kernel
theorem dX7_restore_79 : decode cX7_restore 79 = .ok (.invokevirtual 153, 3) := by decide +kernel
theorem dX7_restore_82 : decode cX7_restore 82 = .ok (.ireturn, 1) := by decide +kernel
theorem dX7_refuseBadSets_0 : decode cX7_refuseBadSets 0 = .ok (.aload_n 0, 1) := by decide +kernel
theorem dX7_refuseBadSets_1 : decode cX7_refuseBadSets 1 = .ok (.getfield 19, 3) := by decide +kernel
theorem dX7_refuseBadSets_4 : decode cX7_refuseBadSets 4 = .ok (.iload_n 1, 1) := by decide +kernel
theorem dX7_refuseBadSets_5 : decode cX7_refuseBadSets 5 = .ok (.iload_n 2, 1) := by decide +kernel
theorem dX7_refuseBadSets_6 : decode cX7_refuseBadSets 6 = .ok (.invokevirtual 315, 3) := by decide +kernel
theorem dX7_refuseBadSets_9 : decode cX7_refuseBadSets 9 = .ok (.ifCond .ne 14, 3) := by decide +kernel
theorem dX7_refuseBadSets_12 : decode cX7_refuseBadSets 12 = .ok (.new 67, 3) := by decide +kernel
theorem dX7_refuseBadSets_15 : decode cX7_refuseBadSets 15 = .ok (.dup, 1) := by decide +kernel
theorem dX7_refuseBadSets_16 : decode cX7_refuseBadSets 16 = .ok (.ldc_w 318, 3) := by decide +kernel
theorem dX7_refuseBadSets_19 : decode cX7_refuseBadSets 19 = .ok (.invokespecial 71, 3) := by decide +kernel
theorem dX7_refuseBadSets_22 : decode cX7_refuseBadSets 22 = .ok (.athrow, 1) := by decide +kernel
theorem dX7_refuseBadSets_23 : decode cX7_refuseBadSets 23 = .ok (.return_, 1) := by decide +kernel
theorem dX7_obeyGroup_0 : decode cX7_obeyGroup 0 = .ok (.iload_n 1, 1) := by decide +kernel
theorem dX7_obeyGroup_1 : decode cX7_obeyGroup 1 = .ok (.bipush 100, 2) := by decide +kernel
theorem dX7_obeyGroup_3 : decode cX7_obeyGroup 3 = .ok (.idiv, 1) := by decide +kernel
theorem dX7_obeyGroup_4 : decode cX7_obeyGroup 4 = .ok (.bipush 100, 2) := by decide +kernel
theorem dX7_obeyGroup_6 : decode cX7_obeyGroup 6 = .ok (.irem, 1) := by decide +kernel
theorem dX7_obeyGroup_7 : decode cX7_obeyGroup 7 = .ok (.istore_n 2, 1) := by decide +kernel
theorem dX7_obeyGroup_8 : decode cX7_obeyGroup 8 = .ok (.iload_n 1, 1) := by decide +kernel
theorem dX7_obeyGroup_9 : decode cX7_obeyGroup 9 = .ok (.bipush 100, 2) := by decide +kernel
theorem dX7_obeyGroup_11 : decode cX7_obeyGroup 11 = .ok (.irem, 1) := by decide +kernel
theorem dX7_obeyGroup_12 : decode cX7_obeyGroup 12 = .ok (.istore_n 3, 1) := by decide +kernel
theorem dX7_obeyGroup_13 : decode cX7_obeyGroup 13 = .ok (.iload_n 1, 1) := by decide +kernel
theorem dX7_obeyGroup_14 : decode cX7_obeyGroup 14 = .ok (.bipush 10, 2) := by decide +kernel
theorem dX7_obeyGroup_16 : decode cX7_obeyGroup 16 = .ok (.irem, 1) := by decide +kernel
theorem dX7_obeyGroup_17 : decode cX7_obeyGroup 17 = .ok (.istore 4, 2) := by decide +kernel
theorem dX7_obeyGroup_19 : decode cX7_obeyGroup 19 = .ok (.iload_n 1, 1) := by decide +kernel
theorem dX7_obeyGroup_20 : decode cX7_obeyGroup 20 = .ok (.sipush 10000, 3) := by decide +kernel
theorem dX7_obeyGroup_23 : decode cX7_obeyGroup 23 = .ok (.idiv, 1) := by decide +kernel
theorem dX7_obeyGroup_24 : decode cX7_obeyGroup 24 = .ok (.tableswitch 310 1 9 #[52, 59, 69, 112, 158, 182, 206, 245, 276], 52) := by decide +kernel
theorem dX7_obeyGroup_76 : decode cX7_obeyGroup 76 = .ok (.aload_n 0, 1) := by decide +kernel
theorem dX7_obeyGroup_77 : decode cX7_obeyGroup 77 = .ok (.iload_n 2, 1) := by decide +kernel
theorem dX7_obeyGroup_78 : decode cX7_obeyGroup 78 = .ok (.iload_n 3, 1) := by decide +kernel
theorem dX7_obeyGroup_79 : decode cX7_obeyGroup 79 = .ok (.invokevirtual 320, 3) := by decide +kernel
theorem dX7_obeyGroup_82 : decode cX7_obeyGroup 82 = .ok (.ireturn, 1) := by decide +kernel
theorem dX7_obeyGroup_83 : decode cX7_obeyGroup 83 = .ok (.aload_n 0, 1) := by decide +kernel
theorem dX7_obeyGroup_84 : decode cX7_obeyGroup 84 = .ok (.getfield 23, 3) := by decide +kernel
theorem dX7_obeyGroup_87 : decode cX7_obeyGroup 87 = .ok (.iload_n 2, 1) := by decide +kernel
theorem dX7_obeyGroup_88 : decode cX7_obeyGroup 88 = .ok (.iload_n 3, 1) := by decide +kernel
theorem dX7_obeyGroup_89 : decode cX7_obeyGroup 89 = .ok (.invokevirtual 138, 3) := by decide +kernel
theorem dX7_obeyGroup_92 : decode cX7_obeyGroup 92 = .ok (.ireturn, 1) := by decide +kernel
theorem dX7_obeyGroup_93 : decode cX7_obeyGroup 93 = .ok (.iload_n 3, 1) := by decide +kernel
theorem dX7_obeyGroup_94 : decode cX7_obeyGroup 94 = .ok (.iconst 1, 1) := by decide +kernel
theorem dX7_obeyGroup_95 : decode cX7_obeyGroup 95 = .ok (.if_icmp .gt 39, 3) := by decide +kernel
theorem dX7_obeyGroup_98 : decode cX7_obeyGroup 98 = .ok (.aload_n 0, 1) := by decide +kernel
theorem dX7_obeyGroup_99 : decode cX7_obeyGroup 99 = .ok (.getfield 23, 3) := by decide +kernel
theorem dX7_obeyGroup_102 : decode cX7_obeyGroup 102 = .ok (.iload_n 2, 1) := by decide +kernel
theorem dX7_obeyGroup_103 : decode cX7_obeyGroup 103 = .ok (.invokevirtual 178, 3) := by decide +kernel
theorem dX7_obeyGroup_106 : decode cX7_obeyGroup 106 = .ok (.ifCond .eq 28, 3) := by decide +kernel
theorem dX7_obeyGroup_109 : decode cX7_obeyGroup 109 = .ok (.aload_n 0, 1) := by decide +kernel
theorem dX7_obeyGroup_110 : decode cX7_obeyGroup 110 = .ok (.getfield 23, 3) := by decide +kernel
theorem dX7_obeyGroup_113 : decode cX7_obeyGroup 113 = .ok (.iload_n 2, 1) := by decide +kernel
theorem dX7_obeyGroup_114 : decode cX7_obeyGroup 114 = .ok (.iload_n 3, 1) := by decide +kernel
theorem dX7_obeyGroup_115 : decode cX7_obeyGroup 115 = .ok (.iconst 1, 1) := by decide +kernel
theorem dX7_obeyGroup_116 : decode cX7_obeyGroup 116 = .ok (.if_icmp .ne 7, 3) := by decide +kernel
theorem dX7_obeyGroup_119 : decode cX7_obeyGroup 119 = .ok (.iconst 1, 1) := by decide +kernel
theorem dX7_obeyGroup_120 : decode cX7_obeyGroup 120 = .ok (.goto 4, 3) := by decide +kernel
theorem dX7_obeyGroup_123 : decode cX7_obeyGroup 123 = .ok (.iconst 0, 1) := by decide +kernel
theorem dX7_obeyGroup_124 : decode cX7_obeyGroup 124 = .ok (.invokevirtual 232, 3) := by decide +kernel
theorem dX7_obeyGroup_127 : decode cX7_obeyGroup 127 = .ok (.ifCond .eq 7, 3) := by decide +kernel
theorem dX7_obeyGroup_130 : decode cX7_obeyGroup 130 = .ok (.iconst 1, 1) := by decide +kernel
theorem dX7_obeyGroup_131 : decode cX7_obeyGroup 131 = .ok (.goto 4, 3) := by decide +kernel
theorem dX7_obeyGroup_134 : decode cX7_obeyGroup 134 = .ok (.iconst 0, 1) := by decide +kernel
theorem dX7_obeyGroup_135 : decode cX7_obeyGroup 135 = .ok (.ireturn, 1) := by decide +kernel
theorem dX7_obeyGroup_136 : decode cX7_obeyGroup 136 = .ok (.iload_n 1, 1) := by decide +kernel
theorem dX7_obeyGroup_137 : decode cX7_obeyGroup 137 = .ok (.sipush 1000, 3) := by decide +kernel
theorem dX7_obeyGroup_140 : decode cX7_obeyGroup 140 = .ok (.irem, 1) := by decide +kernel
theorem dX7_obeyGroup_141 : decode cX7_obeyGroup 141 = .ok (.ifCond .ne 39, 3) := by decide +kernel
theorem dX7_obeyGroup_144 : decode cX7_obeyGroup 144 = .ok (.iload_n 1, 1) := by decide +kernel
theorem dX7_obeyGroup_145 : decode cX7_obeyGroup 145 = .ok (.sipush 1000, 3) := by decide +kernel
theorem dX7_obeyGroup_148 : decode cX7_obeyGroup 148 = .ok (.idiv, 1) := by decide +kernel
theorem dX7_obeyGroup_149 : decode cX7_obeyGroup 149 = .ok (.bipush 10, 2) := by decide +kernel
theorem dX7_obeyGroup_151 : decode cX7_obeyGroup 151 = .ok (.irem, 1) := by decide +kernel
theorem dX7_obeyGroup_152 : decode cX7_obeyGroup 152 = .ok (.invokestatic 236, 3) := by decide +kernel
theorem dX7_obeyGroup_155 : decode cX7_obeyGroup 155 = .ok (.ifCond .eq 25, 3) := by decide +kernel
theorem dX7_obeyGroup_158 : decode cX7_obeyGroup 158 = .ok (.aload_n 0, 1) := by decide +kernel
theorem dX7_obeyGroup_159 : decode cX7_obeyGroup 159 = .ok (.getfield 23, 3) := by decide +kernel
theorem dX7_obeyGroup_162 : decode cX7_obeyGroup 162 = .ok (.iload_n 1, 1) := by decide +kernel
theorem dX7_obeyGroup_163 : decode cX7_obeyGroup 163 = .ok (.sipush 1000, 3) := by decide +kernel
theorem dX7_obeyGroup_166 : decode cX7_obeyGroup 166 = .ok (.idiv, 1) := by decide +kernel
theorem dX7_obeyGroup_167 : decode cX7_obeyGroup 167 = .ok (.bipush 10, 2) := by decide +kernel
theorem dX7_obeyGroup_169 : decode cX7_obeyGroup 169 = .ok (.irem, 1) := by decide +kernel
theorem dX7_obeyGroup_170 : decode cX7_obeyGroup 170 = .ok (.invokevirtual 241, 3) := by decide +kernel
theorem dX7_obeyGroup_173 : decode cX7_obeyGroup 173 = .ok (.ifCond .eq 7, 3) := by decide +kernel
theorem dX7_obeyGroup_176 : decode cX7_obeyGroup 176 = .ok (.iconst 1, 1) := by decide +kernel
theorem dX7_obeyGroup_177 : decode cX7_obeyGroup 177 = .ok (.goto 4, 3) := by decide +kernel
theorem dX7_obeyGroup_180 : decode cX7_obeyGroup 180 = .ok (.iconst 0, 1) := by decide +kernel
theorem dX7_obeyGroup_181 : decode cX7_obeyGroup 181 = .ok (.ireturn, 1) := by decide +kernel
theorem dX7_obeyGroup_182 : decode cX7_obeyGroup 182 = .ok (.iload_n 1, 1) := by decide +kernel
theorem dX7_obeyGroup_183 : decode cX7_obeyGroup 183 = .ok (.sipush 10000, 3) := by decide +kernel
theorem dX7_obeyGroup_186 : decode cX7_obeyGroup 186 = .ok (.irem, 1) := by decide +kernel
theorem dX7_obeyGroup_187 : decode cX7_obeyGroup 187 = .ok (.ifCond .ne 17, 3) := by decide +kernel
theorem dX7_obeyGroup_190 : decode cX7_obeyGroup 190 = .ok (.aload_n 0, 1) := by decide +kernel
theorem dX7_obeyGroup_191 : decode cX7_obeyGroup 191 = .ok (.getfield 23, 3) := by decide +kernel
theorem dX7_obeyGroup_194 : decode cX7_obeyGroup 194 = .ok (.invokevirtual 246, 3) := by decide +kernel
theorem dX7_obeyGroup_197 : decode cX7_obeyGroup 197 = .ok (.ifCond .eq 7, 3) := by decide +kernel
theorem dX7_obeyGroup_200 : decode cX7_obeyGroup 200 = .ok (.iconst 1, 1) := by decide +kernel
theorem dX7_obeyGroup_201 : decode cX7_obeyGroup 201 = .ok (.goto 4, 3) := by decide +kernel
theorem dX7_obeyGroup_204 : decode cX7_obeyGroup 204 = .ok (.iconst 0, 1) := by decide +kernel
theorem dX7_obeyGroup_205 : decode cX7_obeyGroup 205 = .ok (.ireturn, 1) := by decide +kernel
theorem dX7_obeyGroup_206 : decode cX7_obeyGroup 206 = .ok (.iload_n 2, 1) := by decide +kernel
theorem dX7_obeyGroup_207 : decode cX7_obeyGroup 207 = .ok (.ifCond .ne 21, 3) := by decide +kernel
theorem dX7_obeyGroup_210 : decode cX7_obeyGroup 210 = .ok (.aload_n 0, 1) := by decide +kernel
theorem dX7_obeyGroup_211 : decode cX7_obeyGroup 211 = .ok (.getfield 23, 3) := by decide +kernel
theorem dX7_obeyGroup_214 : decode cX7_obeyGroup 214 = .ok (.getfield 149, 3) := by decide +kernel
theorem dX7_obeyGroup_217 : decode cX7_obeyGroup 217 = .ok (.invokevirtual 153, 3) := by decide +kernel
theorem dX7_obeyGroup_220 : decode cX7_obeyGroup 220 = .ok (.iload_n 3, 1) := by decide +kernel
theorem dX7_obeyGroup_221 : decode cX7_obeyGroup 221 = .ok (.if_icmp .gt 7, 3) := by decide +kernel
theorem dX7_obeyGroup_224 : decode cX7_obeyGroup 224 = .ok (.iconst 1, 1) := by decide +kernel
theorem dX7_obeyGroup_225 : decode cX7_obeyGroup 225 = .ok (.goto 4, 3) := by decide +kernel
theorem dX7_obeyGroup_228 : decode cX7_obeyGroup 228 = .ok (.iconst 0, 1) := by decide +kernel
theorem dX7_obeyGroup_229 : decode cX7_obeyGroup 229 = .ok (.ireturn, 1) := by decide +kernel
theorem dX7_obeyGroup_230 : decode cX7_obeyGroup 230 = .ok (.iload_n 3, 1) := by decide +kernel
theorem dX7_obeyGroup_231 : decode cX7_obeyGroup 231 = .ok (.bipush 9, 2) := by decide +kernel
theorem dX7_obeyGroup_233 : decode cX7_obeyGroup 233 = .ok (.if_icmp .gt 34, 3) := by decide +kernel
theorem dX7_obeyGroup_236 : decode cX7_obeyGroup 236 = .ok (.aload_n 0, 1) := by decide +kernel
theorem dX7_obeyGroup_237 : decode cX7_obeyGroup 237 = .ok (.getfield 23, 3) := by decide +kernel
theorem dX7_obeyGroup_240 : decode cX7_obeyGroup 240 = .ok (.iload_n 2, 1) := by decide +kernel
theorem dX7_obeyGroup_241 : decode cX7_obeyGroup 241 = .ok (.invokevirtual 178, 3) := by decide +kernel
theorem dX7_obeyGroup_244 : decode cX7_obeyGroup 244 = .ok (.ifCond .eq 23, 3) := by decide +kernel
theorem dX7_obeyGroup_247 : decode cX7_obeyGroup 247 = .ok (.aload_n 0, 1) := by decide +kernel
theorem dX7_obeyGroup_248 : decode cX7_obeyGroup 248 = .ok (.getfield 23, 3) := by decide +kernel
theorem dX7_obeyGroup_251 : decode cX7_obeyGroup 251 = .ok (.getfield 149, 3) := by decide +kernel
theorem dX7_obeyGroup_254 : decode cX7_obeyGroup 254 = .ok (.iload_n 2, 1) := by decide +kernel
theorem dX7_obeyGroup_255 : decode cX7_obeyGroup 255 = .ok (.invokevirtual 187, 3) := by decide +kernel
theorem dX7_obeyGroup_258 : decode cX7_obeyGroup 258 = .ok (.iload 4, 2) := by decide +kernel
theorem dX7_obeyGroup_260 : decode cX7_obeyGroup 260 = .ok (.if_icmp .ne 7, 3) := by decide +kernel
theorem dX7_obeyGroup_263 : decode cX7_obeyGroup 263 = .ok (.iconst 1, 1) := by decide +kernel
theorem dX7_obeyGroup_264 : decode cX7_obeyGroup 264 = .ok (.goto 4, 3) := by decide +kernel
theorem dX7_obeyGroup_267 : decode cX7_obeyGroup 267 = .ok (.iconst 0, 1) := by decide +kernel
theorem dX7_obeyGroup_268 : decode cX7_obeyGroup 268 = .ok (.ireturn, 1) := by decide +kernel
theorem dX7_obeyGroup_269 : decode cX7_obeyGroup 269 = .ok (.iload_n 1, 1) := by decide +kernel
theorem dX7_obeyGroup_270 : decode cX7_obeyGroup 270 = .ok (.sipush 10000, 3) := by decide +kernel
theorem dX7_obeyGroup_273 : decode cX7_obeyGroup 273 = .ok (.irem, 1) := by decide +kernel
theorem dX7_obeyGroup_274 : decode cX7_obeyGroup 274 = .ok (.bipush 9, 2) := by decide +kernel
theorem dX7_obeyGroup_276 : decode cX7_obeyGroup 276 = .ok (.if_icmp .gt 22, 3) := by decide +kernel
theorem dX7_obeyGroup_279 : decode cX7_obeyGroup 279 = .ok (.aload_n 0, 1) := by decide +kernel
theorem dX7_obeyGroup_280 : decode cX7_obeyGroup 280 = .ok (.getfield 23, 3) := by decide +kernel
theorem dX7_obeyGroup_283 : decode cX7_obeyGroup 283 = .ok (.getfield 149, 3) := by decide +kernel
theorem dX7_obeyGroup_286 : decode cX7_obeyGroup 286 = .ok (.invokevirtual 191, 3) := by decide +kernel
theorem dX7_obeyGroup_289 : decode cX7_obeyGroup 289 = .ok (.iload 4, 2) := by decide +kernel
theorem dX7_obeyGroup_291 : decode cX7_obeyGroup 291 = .ok (.if_icmp .ne 7, 3) := by decide +kernel
theorem dX7_obeyGroup_294 : decode cX7_obeyGroup 294 = .ok (.iconst 1, 1) := by decide +kernel
theorem dX7_obeyGroup_295 : decode cX7_obeyGroup 295 = .ok (.goto 4, 3) := by decide +kernel
theorem dX7_obeyGroup_298 : decode cX7_obeyGroup 298 = .ok (.iconst 0, 1) := by decide +kernel
theorem dX7_obeyGroup_299 : decode cX7_obeyGroup 299 = .ok (.ireturn, 1) := by decide +kernel
theorem dX7_obeyGroup_300 : decode cX7_obeyGroup 300 = .ok (.iload_n 1, 1) := by decide +kernel
theorem dX7_obeyGroup_301 : decode cX7_obeyGroup 301 = .ok (.sipush 10000, 3) := by decide +kernel
theorem dX7_obeyGroup_304 : decode cX7_obeyGroup 304 = .ok (.irem, 1) := by decide +kernel
theorem dX7_obeyGroup_305 : decode cX7_obeyGroup 305 = .ok (.bipush 9, 2) := by decide +kernel
theorem dX7_obeyGroup_307 : decode cX7_obeyGroup 307 = .ok (.if_icmp .gt 25, 3) := by decide +kernel
theorem dX7_obeyGroup_310 : decode cX7_obeyGroup 310 = .ok (.aload_n 0, 1) := by decide +kernel
theorem dX7_obeyGroup_311 : decode cX7_obeyGroup 311 = .ok (.getfield 23, 3) := by decide +kernel
theorem dX7_obeyGroup_314 : decode cX7_obeyGroup 314 = .ok (.getfield 149, 3) := by decide +kernel
theorem dX7_obeyGroup_317 : decode cX7_obeyGroup 317 = .ok (.invokevirtual 153, 3) := by decide +kernel
theorem dX7_obeyGroup_320 : decode cX7_obeyGroup 320 = .ok (.invokestatic 275, 3) := by decide +kernel
theorem dX7_obeyGroup_323 : decode cX7_obeyGroup 323 = .ok (.iload 4, 2) := by decide +kernel
theorem dX7_obeyGroup_325 : decode cX7_obeyGroup 325 = .ok (.if_icmp .gt 7, 3) := by decide +kernel
theorem dX7_obeyGroup_328 : decode cX7_obeyGroup 328 = .ok (.iconst 1, 1) := by decide +kernel
theorem dX7_obeyGroup_329 : decode cX7_obeyGroup 329 = .ok (.goto 4, 3) := by decide +kernel
theorem dX7_obeyGroup_332 : decode cX7_obeyGroup 332 = .ok (.iconst 0, 1) := by decide +kernel
theorem dX7_obeyGroup_333 : decode cX7_obeyGroup 333 = .ok (.ireturn, 1) := by decide +kernel
theorem dX7_obeyGroup_334 : decode cX7_obeyGroup 334 = .ok (.iconst 0, 1) := by decide +kernel
theorem dX7_obeyGroup_335 : decode cX7_obeyGroup 335 = .ok (.ireturn, 1) := by decide +kernel
theorem dX7_tryCoins_0 : decode cX7_tryCoins 0 = .ok (.aload_n 0, 1) := by decide +kernel
theorem dX7_tryCoins_1 : decode cX7_tryCoins 1 = .ok (.getfield 23, 3) := by decide +kernel
theorem dX7_tryCoins_4 : decode cX7_tryCoins 4 = .ok (.iload_n 1, 1) := by decide +kernel
theorem dX7_tryCoins_5 : decode cX7_tryCoins 5 = .ok (.invokevirtual 178, 3) := by decide +kernel
theorem dX7_tryCoins_8 : decode cX7_tryCoins 8 = .ok (.ifCond .eq 20, 3) := by decide +kernel
theorem dX7_tryCoins_11 : decode cX7_tryCoins 11 = .ok (.iload_n 2, 1) := by decide +kernel
theorem dX7_tryCoins_12 : decode cX7_tryCoins 12 = .ok (.bipush 99, 2) := by decide +kernel
theorem dX7_tryCoins_14 : decode cX7_tryCoins 14 = .ok (.if_icmp .eq 16, 3) := by decide +kernel
theorem dX7_tryCoins_17 : decode cX7_tryCoins 17 = .ok (.aload_n 0, 1) := by decide +kernel
theorem dX7_tryCoins_18 : decode cX7_tryCoins 18 = .ok (.getfield 23, 3) := by decide +kernel
theorem dX7_tryCoins_21 : decode cX7_tryCoins 21 = .ok (.iload_n 2, 1) := by decide +kernel
theorem dX7_tryCoins_22 : decode cX7_tryCoins 22 = .ok (.invokevirtual 178, 3) := by decide +kernel
theorem dX7_tryCoins_25 : decode cX7_tryCoins 25 = .ok (.ifCond .ne 5, 3) := by decide +kernel
theorem dX7_tryCoins_28 : decode cX7_tryCoins 28 = .ok (.iconst 0, 1) := by decide +kernel
theorem dX7_tryCoins_29 : decode cX7_tryCoins 29 = .ok (.ireturn, 1) := by decide +kernel
theorem dX7_tryCoins_30 : decode cX7_tryCoins 30 = .ok (.aload_n 0, 1) := by decide +kernel
theorem dX7_tryCoins_31 : decode cX7_tryCoins 31 = .ok (.getfield 23, 3) := by decide +kernel
theorem dX7_tryCoins_34 : decode cX7_tryCoins 34 = .ok (.iconst 1, 1) := by decide +kernel
theorem dX7_tryCoins_35 : decode cX7_tryCoins 35 = .ok (.iload_n 1, 1) := by decide +kernel
theorem dX7_tryCoins_36 : decode cX7_tryCoins 36 = .ok (.ishl, 1) := by decide +kernel
theorem dX7_tryCoins_37 : decode cX7_tryCoins 37 = .ok (.iload_n 2, 1) := by decide +kernel
theorem dX7_tryCoins_38 : decode cX7_tryCoins 38 = .ok (.bipush 99, 2) := by decide +kernel
theorem dX7_tryCoins_40 : decode cX7_tryCoins 40 = .ok (.if_icmp .ne 7, 3) := by decide +kernel
theorem dX7_tryCoins_43 : decode cX7_tryCoins 43 = .ok (.iconst 0, 1) := by decide +kernel
theorem dX7_tryCoins_44 : decode cX7_tryCoins 44 = .ok (.goto 6, 3) := by decide +kernel
theorem dX7_tryCoins_47 : decode cX7_tryCoins 47 = .ok (.iconst 1, 1) := by decide +kernel
theorem dX7_tryCoins_48 : decode cX7_tryCoins 48 = .ok (.iload_n 2, 1) := by decide +kernel
theorem dX7_tryCoins_49 : decode cX7_tryCoins 49 = .ok (.ishl, 1) := by decide +kernel
theorem dX7_tryCoins_50 : decode cX7_tryCoins 50 = .ok (.invokevirtual 142, 3) := by decide +kernel
theorem dX7_tryCoins_53 : decode cX7_tryCoins 53 = .ok (.ireturn, 1) := by decide +kernel
theorem dX7_takeTurn_0 : decode cX7_takeTurn 0 = .ok (.iload_n 1, 1) := by decide +kernel
theorem dX7_takeTurn_1 : decode cX7_takeTurn 1 = .ok (.bipush 8, 2) := by decide +kernel
theorem dX7_takeTurn_3 : decode cX7_takeTurn 3 = .ok (.idiv, 1) := by decide +kernel
theorem dX7_takeTurn_4 : decode cX7_takeTurn 4 = .ok (.istore_n 2, 1) := by decide +kernel
theorem dX7_takeTurn_5 : decode cX7_takeTurn 5 = .ok (.iload_n 1, 1) := by decide +kernel
theorem dX7_takeTurn_6 : decode cX7_takeTurn 6 = .ok (.bipush 8, 2) := by decide +kernel
theorem dX7_takeTurn_8 : decode cX7_takeTurn 8 = .ok (.irem, 1) := by decide +kernel
theorem dX7_takeTurn_9 : decode cX7_takeTurn 9 = .ok (.tableswitch 129 0 2 #[27, 74, 85], 27) := by decide +kernel
theorem dX7_takeTurn_36 : decode cX7_takeTurn 36 = .ok (.iload_n 2, 1) := by decide +kernel
theorem dX7_takeTurn_37 : decode cX7_takeTurn 37 = .ok (.iconst 3, 1) := by decide +kernel
theorem dX7_takeTurn_38 : decode cX7_takeTurn 38 = .ok (.irem, 1) := by decide +kernel
theorem dX7_takeTurn_39 : decode cX7_takeTurn 39 = .ok (.ifCond .ne 29, 3) := by decide +kernel
theorem dX7_takeTurn_42 : decode cX7_takeTurn 42 = .ok (.aload_n 0, 1) := by decide +kernel
theorem dX7_takeTurn_43 : decode cX7_takeTurn 43 = .ok (.getfield 23, 3) := by decide +kernel
theorem dX7_takeTurn_46 : decode cX7_takeTurn 46 = .ok (.iconst 1, 1) := by decide +kernel
theorem dX7_takeTurn_47 : decode cX7_takeTurn 47 = .ok (.iload_n 2, 1) := by decide +kernel
theorem dX7_takeTurn_48 : decode cX7_takeTurn 48 = .ok (.bipush 20, 2) := by decide +kernel
theorem dX7_takeTurn_50 : decode cX7_takeTurn 50 = .ok (.irem, 1) := by decide +kernel
theorem dX7_takeTurn_51 : decode cX7_takeTurn 51 = .ok (.iadd, 1) := by decide +kernel
theorem dX7_takeTurn_52 : decode cX7_takeTurn 52 = .ok (.iconst 1, 1) := by decide +kernel
theorem dX7_takeTurn_53 : decode cX7_takeTurn 53 = .ok (.iload_n 2, 1) := by decide +kernel
theorem dX7_takeTurn_54 : decode cX7_takeTurn 54 = .ok (.bipush 32, 2) := by decide +kernel
theorem dX7_takeTurn_56 : decode cX7_takeTurn 56 = .ok (.idiv, 1) := by decide +kernel
theorem dX7_takeTurn_57 : decode cX7_takeTurn 57 = .ok (.bipush 20, 2) := by decide +kernel
theorem dX7_takeTurn_59 : decode cX7_takeTurn 59 = .ok (.irem, 1) := by decide +kernel
theorem dX7_takeTurn_60 : decode cX7_takeTurn 60 = .ok (.iadd, 1) := by decide +kernel
theorem dX7_takeTurn_61 : decode cX7_takeTurn 61 = .ok (.invokevirtual 138, 3) := by decide +kernel
theorem dX7_takeTurn_64 : decode cX7_takeTurn 64 = .ok (.pop, 1) := by decide +kernel
theorem dX7_takeTurn_65 : decode cX7_takeTurn 65 = .ok (.goto 124, 3) := by decide +kernel
theorem dX7_takeTurn_68 : decode cX7_takeTurn 68 = .ok (.aload_n 0, 1) := by decide +kernel
theorem dX7_takeTurn_69 : decode cX7_takeTurn 69 = .ok (.getfield 23, 3) := by decide +kernel
theorem dX7_takeTurn_72 : decode cX7_takeTurn 72 = .ok (.bipush 10, 2) := by decide +kernel
theorem dX7_takeTurn_74 : decode cX7_takeTurn 74 = .ok (.bipush 10, 2) := by decide +kernel
theorem dX7_takeTurn_76 : decode cX7_takeTurn 76 = .ok (.invokevirtual 138, 3) := by decide +kernel
theorem dX7_takeTurn_79 : decode cX7_takeTurn 79 = .ok (.pop, 1) := by decide +kernel
theorem dX7_takeTurn_80 : decode cX7_takeTurn 80 = .ok (.goto 109, 3) := by decide +kernel
theorem dX7_takeTurn_83 : decode cX7_takeTurn 83 = .ok (.aload_n 0, 1) := by decide +kernel
theorem dX7_takeTurn_84 : decode cX7_takeTurn 84 = .ok (.getfield 23, 3) := by decide +kernel
theorem dX7_takeTurn_87 : decode cX7_takeTurn 87 = .ok (.invokevirtual 246, 3) := by decide +kernel
theorem dX7_takeTurn_90 : decode cX7_takeTurn 90 = .ok (.pop, 1) := by decide +kernel
theorem dX7_takeTurn_91 : decode cX7_takeTurn 91 = .ok (.goto 98, 3) := by decide +kernel
theorem dX7_takeTurn_94 : decode cX7_takeTurn 94 = .ok (.aload_n 0, 1) := by decide +kernel
theorem dX7_takeTurn_95 : decode cX7_takeTurn 95 = .ok (.getfield 23, 3) := by decide +kernel
theorem dX7_takeTurn_98 : decode cX7_takeTurn 98 = .ok (.iload_n 2, 1) := by decide +kernel
theorem dX7_takeTurn_99 : decode cX7_takeTurn 99 = .ok (.bipush 12, 2) := by decide +kernel
theorem dX7_takeTurn_101 : decode cX7_takeTurn 101 = .ok (.irem, 1) := by decide +kernel
theorem dX7_takeTurn_102 : decode cX7_takeTurn 102 = .ok (.invokevirtual 178, 3) := by decide +kernel
theorem dX7_takeTurn_105 : decode cX7_takeTurn 105 = .ok (.ifCond .eq 84, 3) := by decide +kernel
theorem dX7_takeTurn_108 : decode cX7_takeTurn 108 = .ok (.aload_n 0, 1) := by decide +kernel
theorem dX7_takeTurn_109 : decode cX7_takeTurn 109 = .ok (.getfield 23, 3) := by decide +kernel
theorem dX7_takeTurn_112 : decode cX7_takeTurn 112 = .ok (.iload_n 2, 1) := by decide +kernel
theorem dX7_takeTurn_113 : decode cX7_takeTurn 113 = .ok (.bipush 12, 2) := by decide +kernel
theorem dX7_takeTurn_115 : decode cX7_takeTurn 115 = .ok (.irem, 1) := by decide +kernel
theorem dX7_takeTurn_116 : decode cX7_takeTurn 116 = .ok (.iload_n 2, 1) := by decide +kernel
theorem dX7_takeTurn_117 : decode cX7_takeTurn 117 = .ok (.bipush 16, 2) := by decide +kernel
theorem dX7_takeTurn_119 : decode cX7_takeTurn 119 = .ok (.idiv, 1) := by decide +kernel
theorem dX7_takeTurn_120 : decode cX7_takeTurn 120 = .ok (.iconst 2, 1) := by decide +kernel
theorem dX7_takeTurn_121 : decode cX7_takeTurn 121 = .ok (.irem, 1) := by decide +kernel
theorem dX7_takeTurn_122 : decode cX7_takeTurn 122 = .ok (.iconst 1, 1) := by decide +kernel
theorem dX7_takeTurn_123 : decode cX7_takeTurn 123 = .ok (.if_icmp .ne 7, 3) := by decide +kernel
theorem dX7_takeTurn_126 : decode cX7_takeTurn 126 = .ok (.iconst 1, 1) := by decide +kernel
theorem dX7_takeTurn_127 : decode cX7_takeTurn 127 = .ok (.goto 4, 3) := by decide +kernel
theorem dX7_takeTurn_130 : decode cX7_takeTurn 130 = .ok (.iconst 0, 1) := by decide +kernel
theorem dX7_takeTurn_131 : decode cX7_takeTurn 131 = .ok (.invokevirtual 232, 3) := by decide +kernel
theorem dX7_takeTurn_134 : decode cX7_takeTurn 134 = .ok (.pop, 1) := by decide +kernel
theorem dX7_takeTurn_135 : decode cX7_takeTurn 135 = .ok (.goto 54, 3) := by decide +kernel
theorem dX7_takeTurn_138 : decode cX7_takeTurn 138 = .ok (.iconst 1, 1) := by decide +kernel
theorem dX7_takeTurn_139 : decode cX7_takeTurn 139 = .ok (.aload_n 0, 1) := by decide +kernel
theorem dX7_takeTurn_140 : decode cX7_takeTurn 140 = .ok (.getfield 23, 3) := by decide +kernel
theorem dX7_takeTurn_143 : decode cX7_takeTurn 143 = .ok (.getfield 145, 3) := by decide +kernel
theorem dX7_takeTurn_146 : decode cX7_takeTurn 146 = .ok (.ishl, 1) := by decide +kernel
theorem dX7_takeTurn_147 : decode cX7_takeTurn 147 = .ok (.iconst 1, 1) := by decide +kernel
theorem dX7_takeTurn_148 : decode cX7_takeTurn 148 = .ok (.isub, 1) := by decide +kernel
theorem dX7_takeTurn_149 : decode cX7_takeTurn 149 = .ok (.istore_n 3, 1) := by decide +kernel
theorem dX7_takeTurn_150 : decode cX7_takeTurn 150 = .ok (.iload_n 2, 1) := by decide +kernel
theorem dX7_takeTurn_151 : decode cX7_takeTurn 151 = .ok (.sipush 4096, 3) := by decide +kernel
theorem dX7_takeTurn_154 : decode cX7_takeTurn 154 = .ok (.irem, 1) := by decide +kernel
theorem dX7_takeTurn_155 : decode cX7_takeTurn 155 = .ok (.iload_n 3, 1) := by decide +kernel
theorem dX7_takeTurn_156 : decode cX7_takeTurn 156 = .ok (.iand, 1) := by decide +kernel
theorem dX7_takeTurn_157 : decode cX7_takeTurn 157 = .ok (.istore 4, 2) := by decide +kernel
theorem dX7_takeTurn_159 : decode cX7_takeTurn 159 = .ok (.iload_n 2, 1) := by decide +kernel
theorem dX7_takeTurn_160 : decode cX7_takeTurn 160 = .ok (.sipush 4096, 3) := by decide +kernel
theorem dX7_takeTurn_163 : decode cX7_takeTurn 163 = .ok (.idiv, 1) := by decide +kernel
theorem dX7_takeTurn_164 : decode cX7_takeTurn 164 = .ok (.sipush 4096, 3) := by decide +kernel
theorem dX7_takeTurn_167 : decode cX7_takeTurn 167 = .ok (.irem, 1) := by decide +kernel
theorem dX7_takeTurn_168 : decode cX7_takeTurn 168 = .ok (.iload_n 3, 1) := by decide +kernel
theorem dX7_takeTurn_169 : decode cX7_takeTurn 169 = .ok (.iand, 1) := by decide +kernel
theorem dX7_takeTurn_170 : decode cX7_takeTurn 170 = .ok (.iload 4, 2) := by decide +kernel
theorem dX7_takeTurn_172 : decode cX7_takeTurn 172 = .ok (.iconst (-1), 1) := by decide +kernel
theorem dX7_takeTurn_173 : decode cX7_takeTurn 173 = .ok (.ixor, 1) := by decide +kernel
theorem dX7_takeTurn_174 : decode cX7_takeTurn 174 = .ok (.iand, 1) := by decide +kernel
theorem dX7_takeTurn_175 : decode cX7_takeTurn 175 = .ok (.istore 5, 2) := by decide +kernel
theorem dX7_takeTurn_177 : decode cX7_takeTurn 177 = .ok (.aload_n 0, 1) := by decide +kernel
theorem dX7_takeTurn_178 : decode cX7_takeTurn 178 = .ok (.getfield 23, 3) := by decide +kernel
theorem dX7_takeTurn_181 : decode cX7_takeTurn 181 = .ok (.iload 4, 2) := by decide +kernel
theorem dX7_takeTurn_183 : decode cX7_takeTurn 183 = .ok (.iload 5, 2) := by decide +kernel
theorem dX7_takeTurn_185 : decode cX7_takeTurn 185 = .ok (.invokevirtual 142, 3) := by decide +kernel
theorem dX7_takeTurn_188 : decode cX7_takeTurn 188 = .ok (.pop, 1) := by decide +kernel
theorem dX7_takeTurn_189 : decode cX7_takeTurn 189 = .ok (.return_, 1) := by decide +kernel
theorem dX7_withoutGroups_0 : decode cX7_withoutGroups 0 = .ok (.lload_n 0, 1) := by decide +kernel
theorem dX7_withoutGroups_1 : decode cX7_withoutGroups 1 = .ok (.lstore_n 3, 1) := by decide +kernel
theorem dX7_withoutGroups_2 : decode cX7_withoutGroups 2 = .ok (.iconst 0, 1) := by decide +kernel
theorem dX7_withoutGroups_3 : decode cX7_withoutGroups 3 = .ok (.istore 5, 2) := by decide +kernel
theorem dX7_withoutGroups_5 : decode cX7_withoutGroups 5 = .ok (.iload 5, 2) := by decide +kernel
theorem dX7_withoutGroups_7 : decode cX7_withoutGroups 7 = .ok (.iload_n 2, 1) := by decide +kernel
theorem dX7_withoutGroups_8 : decode cX7_withoutGroups 8 = .ok (.if_icmp .ge 15, 3) := by decide +kernel
theorem dX7_withoutGroups_11 : decode cX7_withoutGroups 11 = .ok (.lload_n 3, 1) := by decide +kernel
theorem dX7_withoutGroups_12 : decode cX7_withoutGroups 12 = .ok (.ldc2_w 293, 3) := by decide +kernel
theorem dX7_withoutGroups_15 : decode cX7_withoutGroups 15 = .ok (.ldiv, 1) := by decide +kernel
theorem dX7_withoutGroups_16 : decode cX7_withoutGroups 16 = .ok (.lstore_n 3, 1) := by decide +kernel
theorem dX7_withoutGroups_17 : decode cX7_withoutGroups 17 = .ok (.iinc 5 1, 3) := by decide +kernel
theorem dX7_withoutGroups_20 : decode cX7_withoutGroups 20 = .ok (.goto (-15), 3) := by decide +kernel
theorem dX7_withoutGroups_23 : decode cX7_withoutGroups 23 = .ok (.lload_n 3, 1) := by decide +kernel
theorem dX7_withoutGroups_24 : decode cX7_withoutGroups 24 = .ok (.lreturn, 1) := by decide +kernel
theorem dX7_weighingsFor_0 : decode cX7_weighingsFor 0 = .ok (.iconst 0, 1) := by decide +kernel
theorem dX7_weighingsFor_1 : decode cX7_weighingsFor 1 = .ok (.istore_n 1, 1) := by decide +kernel
theorem dX7_weighingsFor_2 : decode cX7_weighingsFor 2 = .ok (.iconst 1, 1) := by decide +kernel
theorem dX7_weighingsFor_3 : decode cX7_weighingsFor 3 = .ok (.istore_n 2, 1) := by decide +kernel
theorem dX7_weighingsFor_4 : decode cX7_weighingsFor 4 = .ok (.iconst 0, 1) := by decide +kernel
theorem dX7_weighingsFor_5 : decode cX7_weighingsFor 5 = .ok (.istore_n 3, 1) := by decide +kernel
theorem dX7_weighingsFor_6 : decode cX7_weighingsFor 6 = .ok (.iload_n 3, 1) := by decide +kernel
theorem dX7_weighingsFor_7 : decode cX7_weighingsFor 7 = .ok (.bipush 20, 2) := by decide +kernel
theorem dX7_weighingsFor_9 : decode cX7_weighingsFor 9 = .ok (.if_icmp .ge 21, 3) := by decide +kernel
theorem dX7_weighingsFor_12 : decode cX7_weighingsFor 12 = .ok (.iload_n 2, 1) := by decide +kernel
theorem dX7_weighingsFor_13 : decode cX7_weighingsFor 13 = .ok (.iload_n 0, 1) := by decide +kernel
theorem dX7_weighingsFor_14 : decode cX7_weighingsFor 14 = .ok (.if_icmp .ge 16, 3) := by decide +kernel
theorem dX7_weighingsFor_17 : decode cX7_weighingsFor 17 = .ok (.iload_n 2, 1) := by decide +kernel
theorem dX7_weighingsFor_18 : decode cX7_weighingsFor 18 = .ok (.iconst 3, 1) := by decide +kernel
theorem dX7_weighingsFor_19 : decode cX7_weighingsFor 19 = .ok (.imul, 1) := by decide +kernel
theorem dX7_weighingsFor_20 : decode cX7_weighingsFor 20 = .ok (.istore_n 2, 1) := by decide +kernel
theorem dX7_weighingsFor_21 : decode cX7_weighingsFor 21 = .ok (.iinc 1 1, 3) := by decide +kernel
theorem dX7_weighingsFor_24 : decode cX7_weighingsFor 24 = .ok (.iinc 3 1, 3) := by decide +kernel
theorem dX7_weighingsFor_27 : decode cX7_weighingsFor 27 = .ok (.goto (-21), 3) := by decide +kernel
theorem dX7_weighingsFor_30 : decode cX7_weighingsFor 30 = .ok (.iload_n 1, 1) := by decide +kernel
theorem dX7_weighingsFor_31 : decode cX7_weighingsFor 31 = .ok (.ireturn, 1) := by decide +kernel
theorem dX7_casesOf_0 : decode cX7_casesOf 0 = .ok (.iconst 3, 1) := by decide +kernel
theorem dX7_casesOf_1 : decode cX7_casesOf 1 = .ok (.iconst 2, 1) := by decide +kernel
theorem dX7_casesOf_2 : decode cX7_casesOf 2 = .ok (.iload_n 0, 1) := by decide +kernel
theorem dX7_casesOf_3 : decode cX7_casesOf 3 = .ok (.imul, 1) := by decide +kernel
theorem dX7_casesOf_4 : decode cX7_casesOf 4 = .ok (.iconst 1, 1) := by decide +kernel
theorem dX7_casesOf_5 : decode cX7_casesOf 5 = .ok (.iadd, 1) := by decide +kernel
theorem dX7_casesOf_6 : decode cX7_casesOf 6 = .ok (.imul, 1) := by decide +kernel
theorem dX7_casesOf_7 : decode cX7_casesOf 7 = .ok (.ireturn, 1) := by decide +kernel
theorem dX7_isArm_0 : decode cX7_isArm 0 = .ok (.iload_n 0, 1) := by decide +kernel
theorem dX7_isArm_1 : decode cX7_isArm 1 = .ok (.iconst 1, 1) := by decide +kernel
theorem dX7_isArm_2 : decode cX7_isArm 2 = .ok (.if_icmp .lt 13, 3) := by decide +kernel
theorem dX7_isArm_5 : decode cX7_isArm 5 = .ok (.iload_n 0, 1) := by decide +kernel
theorem dX7_isArm_6 : decode cX7_isArm 6 = .ok (.bipush 20, 2) := by decide +kernel
theorem dX7_isArm_8 : decode cX7_isArm 8 = .ok (.if_icmp .gt 7, 3) := by decide +kernel
theorem dX7_isArm_11 : decode cX7_isArm 11 = .ok (.iconst 1, 1) := by decide +kernel
theorem dX7_isArm_12 : decode cX7_isArm 12 = .ok (.goto 4, 3) := by decide +kernel
theorem dX7_isArm_15 : decode cX7_isArm 15 = .ok (.iconst 0, 1) := by decide +kernel
theorem dX7_isArm_16 : decode cX7_isArm 16 = .ok (.ireturn, 1) := by decide +kernel
theorem dX7_isPan_0 : decode cX7_isPan 0 = .ok (.iload_n 0, 1) := by decide +kernel
theorem dX7_isPan_1 : decode cX7_isPan 1 = .ok (.ifCond .lt 12, 3) := by decide +kernel
theorem dX7_isPan_4 : decode cX7_isPan 4 = .ok (.iload_n 0, 1) := by decide +kernel
theorem dX7_isPan_5 : decode cX7_isPan 5 = .ok (.iconst 3, 1) := by decide +kernel
theorem dX7_isPan_6 : decode cX7_isPan 6 = .ok (.if_icmp .ge 7, 3) := by decide +kernel
theorem dX7_isPan_9 : decode cX7_isPan 9 = .ok (.iconst 1, 1) := by decide +kernel
theorem dX7_isPan_10 : decode cX7_isPan 10 = .ok (.goto 4, 3) := by decide +kernel
theorem dX7_isPan_13 : decode cX7_isPan 13 = .ok (.iconst 0, 1) := by decide +kernel
theorem dX7_isPan_14 : decode cX7_isPan 14 = .ok (.ireturn, 1) := by decide +kernel
theorem dX7_setsOfOne_0 : decode cX7_setsOfOne 0 = .ok (.bipush 12, 2) := by decide +kernel
theorem dX7_setsOfOne_2 : decode cX7_setsOfOne 2 = .ok (.newarray .int, 2) := by decide +kernel
theorem dX7_setsOfOne_4 : decode cX7_setsOfOne 4 = .ok (.astore_n 0, 1) := by decide +kernel
theorem dX7_setsOfOne_5 : decode cX7_setsOfOne 5 = .ok (.iconst 0, 1) := by decide +kernel
theorem dX7_setsOfOne_6 : decode cX7_setsOfOne 6 = .ok (.istore_n 1, 1) := by decide +kernel
theorem dX7_setsOfOne_7 : decode cX7_setsOfOne 7 = .ok (.iload_n 1, 1) := by decide +kernel
theorem dX7_setsOfOne_8 : decode cX7_setsOfOne 8 = .ok (.aload_n 0, 1) := by decide +kernel
theorem dX7_setsOfOne_9 : decode cX7_setsOfOne 9 = .ok (.arraylength, 1) := by decide +kernel
theorem dX7_setsOfOne_10 : decode cX7_setsOfOne 10 = .ok (.if_icmp .ge 15, 3) := by decide +kernel
theorem dX7_setsOfOne_13 : decode cX7_setsOfOne 13 = .ok (.aload_n 0, 1) := by decide +kernel
theorem dX7_setsOfOne_14 : decode cX7_setsOfOne 14 = .ok (.iload_n 1, 1) := by decide +kernel
theorem dX7_setsOfOne_15 : decode cX7_setsOfOne 15 = .ok (.iconst 1, 1) := by decide +kernel
theorem dX7_setsOfOne_16 : decode cX7_setsOfOne 16 = .ok (.iload_n 1, 1) := by decide +kernel
theorem dX7_setsOfOne_17 : decode cX7_setsOfOne 17 = .ok (.ishl, 1) := by decide +kernel
theorem dX7_setsOfOne_18 : decode cX7_setsOfOne 18 = .ok (.iastore, 1) := by decide +kernel
theorem dX7_setsOfOne_19 : decode cX7_setsOfOne 19 = .ok (.iinc 1 1, 3) := by decide +kernel
theorem dX7_setsOfOne_22 : decode cX7_setsOfOne 22 = .ok (.goto (-15), 3) := by decide +kernel
theorem dX7_setsOfOne_25 : decode cX7_setsOfOne 25 = .ok (.aload_n 0, 1) := by decide +kernel
theorem dX7_setsOfOne_26 : decode cX7_setsOfOne 26 = .ok (.areturn, 1) := by decide +kernel
theorem dX7_setsOfTwo_0 : decode cX7_setsOfTwo 0 = .ok (.bipush 66, 2) := by decide +kernel
theorem dX7_setsOfTwo_2 : decode cX7_setsOfTwo 2 = .ok (.newarray .int, 2) := by decide +kernel
theorem dX7_setsOfTwo_4 : decode cX7_setsOfTwo 4 = .ok (.astore_n 0, 1) := by decide +kernel
theorem dX7_setsOfTwo_5 : decode cX7_setsOfTwo 5 = .ok (.iconst 0, 1) := by decide +kernel
theorem dX7_setsOfTwo_6 : decode cX7_setsOfTwo 6 = .ok (.istore_n 1, 1) := by decide +kernel
theorem dX7_setsOfTwo_7 : decode cX7_setsOfTwo 7 = .ok (.iconst 1, 1) := by decide +kernel
theorem dX7_setsOfTwo_8 : decode cX7_setsOfTwo 8 = .ok (.istore_n 2, 1) := by decide +kernel
theorem dX7_setsOfTwo_9 : decode cX7_setsOfTwo 9 = .ok (.iload_n 2, 1) := by decide +kernel
theorem dX7_setsOfTwo_10 : decode cX7_setsOfTwo 10 = .ok (.bipush 12, 2) := by decide +kernel
theorem dX7_setsOfTwo_12 : decode cX7_setsOfTwo 12 = .ok (.if_icmp .ge 41, 3) := by decide +kernel
theorem dX7_setsOfTwo_15 : decode cX7_setsOfTwo 15 = .ok (.iconst 0, 1) := by decide +kernel
theorem dX7_setsOfTwo_16 : decode cX7_setsOfTwo 16 = .ok (.istore_n 3, 1) := by decide +kernel
theorem dX7_setsOfTwo_17 : decode cX7_setsOfTwo 17 = .ok (.iload_n 3, 1) := by decide +kernel
theorem dX7_setsOfTwo_18 : decode cX7_setsOfTwo 18 = .ok (.iload_n 2, 1) := by decide +kernel
theorem dX7_setsOfTwo_19 : decode cX7_setsOfTwo 19 = .ok (.if_icmp .ge 28, 3) := by decide +kernel
theorem dX7_setsOfTwo_22 : decode cX7_setsOfTwo 22 = .ok (.iload_n 1, 1) := by decide +kernel
theorem dX7_setsOfTwo_23 : decode cX7_setsOfTwo 23 = .ok (.aload_n 0, 1) := by decide +kernel
theorem dX7_setsOfTwo_24 : decode cX7_setsOfTwo 24 = .ok (.arraylength, 1) := by decide +kernel
theorem dX7_setsOfTwo_25 : decode cX7_setsOfTwo 25 = .ok (.if_icmp .ge 22, 3) := by decide +kernel
theorem dX7_setsOfTwo_28 : decode cX7_setsOfTwo 28 = .ok (.aload_n 0, 1) := by decide +kernel
theorem dX7_setsOfTwo_29 : decode cX7_setsOfTwo 29 = .ok (.iload_n 1, 1) := by decide +kernel
theorem dX7_setsOfTwo_30 : decode cX7_setsOfTwo 30 = .ok (.iconst 1, 1) := by decide +kernel
theorem dX7_setsOfTwo_31 : decode cX7_setsOfTwo 31 = .ok (.iload_n 2, 1) := by decide +kernel
theorem dX7_setsOfTwo_32 : decode cX7_setsOfTwo 32 = .ok (.ishl, 1) := by decide +kernel
theorem dX7_setsOfTwo_33 : decode cX7_setsOfTwo 33 = .ok (.iconst 1, 1) := by decide +kernel
theorem dX7_setsOfTwo_34 : decode cX7_setsOfTwo 34 = .ok (.iload_n 3, 1) := by decide +kernel
theorem dX7_setsOfTwo_35 : decode cX7_setsOfTwo 35 = .ok (.ishl, 1) := by decide +kernel
theorem dX7_setsOfTwo_36 : decode cX7_setsOfTwo 36 = .ok (.ior, 1) := by decide +kernel
theorem dX7_setsOfTwo_37 : decode cX7_setsOfTwo 37 = .ok (.iastore, 1) := by decide +kernel
theorem dX7_setsOfTwo_38 : decode cX7_setsOfTwo 38 = .ok (.iinc 1 1, 3) := by decide +kernel
theorem dX7_setsOfTwo_41 : decode cX7_setsOfTwo 41 = .ok (.iinc 3 1, 3) := by decide +kernel
theorem dX7_setsOfTwo_44 : decode cX7_setsOfTwo 44 = .ok (.goto (-27), 3) := by decide +kernel
theorem dX7_setsOfTwo_47 : decode cX7_setsOfTwo 47 = .ok (.iinc 2 1, 3) := by decide +kernel
theorem dX7_setsOfTwo_50 : decode cX7_setsOfTwo 50 = .ok (.goto (-41), 3) := by decide +kernel
theorem dX7_setsOfTwo_53 : decode cX7_setsOfTwo 53 = .ok (.aload_n 0, 1) := by decide +kernel
theorem dX7_setsOfTwo_54 : decode cX7_setsOfTwo 54 = .ok (.areturn, 1) := by decide +kernel
theorem dX8_init_0 : decode cX8_init 0 = .ok (.aload_n 0, 1) := by decide +kernel
theorem dX8_init_1 : decode cX8_init 1 = .ok (.invokespecial 1, 3) := by decide +kernel
theorem dX8_init_4 : decode cX8_init 4 = .ok (.aload_n 0, 1) := by decide +kernel
theorem dX8_init_5 : decode cX8_init 5 = .ok (.bipush 120, 2) := by decide +kernel
theorem dX8_init_7 : decode cX8_init 7 = .ok (.newarray .int, 2) := by decide +kernel
theorem dX8_init_9 : decode cX8_init 9 = .ok (.putfield 7, 3) := by decide +kernel
theorem dX8_init_12 : decode cX8_init 12 = .ok (.aload_n 0, 1) := by decide +kernel
theorem dX8_init_13 : decode cX8_init 13 = .ok (.bipush 107, 2) := by decide +kernel
theorem dX8_init_15 : decode cX8_init 15 = .ok (.newarray .int, 2) := by decide +kernel
theorem dX8_init_17 : decode cX8_init 17 = .ok (.putfield 13, 3) := by decide +kernel
theorem dX8_init_20 : decode cX8_init 20 = .ok (.aload_n 0, 1) := by decide +kernel
theorem dX8_init_21 : decode cX8_init 21 = .ok (.bipush 107, 2) := by decide +kernel
theorem dX8_init_23 : decode cX8_init 23 = .ok (.newarray .int, 2) := by decide +kernel
theorem dX8_init_25 : decode cX8_init 25 = .ok (.putfield 16, 3) := by decide +kernel
theorem dX8_init_28 : decode cX8_init 28 = .ok (.aload_n 0, 1) := by decide +kernel
theorem dX8_init_29 : decode cX8_init 29 = .ok (.sipush 1498, 3) := by decide +kernel
theorem dX8_init_32 : decode cX8_init 32 = .ok (.newarray .int, 2) := by decide +kernel
theorem dX8_init_34 : decode cX8_init 34 = .ok (.putfield 19, 3) := by decide +kernel
theorem dX8_init_37 : decode cX8_init 37 = .ok (.aload_n 0, 1) := by decide +kernel
theorem dX8_init_38 : decode cX8_init 38 = .ok (.sipush 214, 3) := by decide +kernel
theorem dX8_init_41 : decode cX8_init 41 = .ok (.newarray .int, 2) := by decide +kernel
theorem dX8_init_43 : decode cX8_init 43 = .ok (.putfield 22, 3) := by decide +kernel
theorem dX8_init_46 : decode cX8_init 46 = .ok (.aload_n 0, 1) := by decide +kernel
theorem dX8_init_47 : decode cX8_init 47 = .ok (.iconst 2, 1) := by decide +kernel
theorem dX8_init_48 : decode cX8_init 48 = .ok (.newarray .boolean, 2) := by decide +kernel
theorem dX8_init_50 : decode cX8_init 50 = .ok (.putfield 25, 3) := by decide +kernel
theorem dX8_init_53 : decode cX8_init 53 = .ok (.aload_n 0, 1) := by decide +kernel
theorem dX8_init_54 : decode cX8_init 54 = .ok (.bipush 75, 2) := by decide +kernel
theorem dX8_init_56 : decode cX8_init 56 = .ok (.newarray .int, 2) := by decide +kernel
theorem dX8_init_58 : decode cX8_init 58 = .ok (.putfield 29, 3) := by decide +kernel
theorem dX8_init_61 : decode cX8_init 61 = .ok (.aload_n 0, 1) := by decide +kernel
theorem dX8_init_62 : decode cX8_init 62 = .ok (.iconst 3, 1) := by decide +kernel
theorem dX8_init_63 : decode cX8_init 63 = .ok (.newarray .int, 2) := by decide +kernel
theorem dX8_init_65 : decode cX8_init 65 = .ok (.putfield 32, 3) := by decide +kernel
theorem dX8_init_68 : decode cX8_init 68 = .ok (.aload_n 0, 1) := by decide +kernel
theorem dX8_init_69 : decode cX8_init 69 = .ok (.getfield 13, 3) := by decide +kernel
theorem dX8_init_72 : decode cX8_init 72 = .ok (.invokestatic 35, 3) := by decide +kernel
theorem dX8_init_75 : decode cX8_init 75 = .ok (.return_, 1) := by decide +kernel
theorem dX8_thrown_0 : decode cX8_thrown 0 = .ok (.aload_n 0, 1) := by decide +kernel
theorem dX8_thrown_1 : decode cX8_thrown 1 = .ok (.getfield 39, 3) := by decide +kernel
theorem dX8_thrown_4 : decode cX8_thrown 4 = .ok (.ireturn, 1) := by decide +kernel
theorem dX8_refused_0 : decode cX8_refused 0 = .ok (.aload_n 0, 1) := by decide +kernel
theorem dX8_refused_1 : decode cX8_refused 1 = .ok (.iload_n 1, 1) := by decide +kernel
theorem dX8_refused_2 : decode cX8_refused 2 = .ok (.putfield 39, 3) := by decide +kernel
theorem dX8_refused_5 : decode cX8_refused 5 = .ok (.iload_n 1, 1) := by decide +kernel
theorem dX8_refused_6 : decode cX8_refused 6 = .ok (.ifCond .le 7, 3) := by decide +kernel
theorem dX8_refused_9 : decode cX8_refused 9 = .ok (.iconst 1, 1) := by decide +kernel
theorem dX8_refused_10 : decode cX8_refused 10 = .ok (.goto 4, 3) := by decide +kernel
theorem dX8_refused_13 : decode cX8_refused 13 = .ok (.iconst 0, 1) := by decide +kernel
theorem dX8_refused_14 : decode cX8_refused 14 = .ok (.ireturn, 1) := by decide +kernel
theorem dX8_in_0 : decode cX8_in 0 = .ok (.lload_n 0, 1) := by decide +kernel
theorem dX8_in_1 : decode cX8_in 1 = .ok (.lload_n 2, 1) := by decide +kernel
theorem dX8_in_2 : decode cX8_in 2 = .ok (.lcmp, 1) := by decide +kernel
theorem dX8_in_3 : decode cX8_in 3 = .ok (.ifCond .lt 14, 3) := by decide +kernel
theorem dX8_in_6 : decode cX8_in 6 = .ok (.lload_n 0, 1) := by decide +kernel
theorem dX8_in_7 : decode cX8_in 7 = .ok (.lload 4, 2) := by decide +kernel
theorem dX8_in_9 : decode cX8_in 9 = .ok (.lcmp, 1) := by decide +kernel
theorem dX8_in_10 : decode cX8_in 10 = .ok (.ifCond .gt 7, 3) := by decide +kernel
theorem dX8_in_13 : decode cX8_in 13 = .ok (.iconst 1, 1) := by decide +kernel
theorem dX8_in_14 : decode cX8_in 14 = .ok (.goto 4, 3) := by decide +kernel
theorem dX8_in_17 : decode cX8_in 17 = .ok (.iconst 0, 1) := by decide +kernel
theorem dX8_in_18 : decode cX8_in 18 = .ok (.ireturn, 1) := by decide +kernel
theorem dX8_copyState_0 : decode cX8_copyState 0 = .ok (.iconst 0, 1) := by decide +kernel
theorem dX8_copyState_1 : decode cX8_copyState 1 = .ok (.istore 4, 2) := by decide +kernel
theorem dX8_copyState_3 : decode cX8_copyState 3 = .ok (.iload 4, 2) := by decide +kernel
theorem dX8_copyState_5 : decode cX8_copyState 5 = .ok (.bipush 107, 2) := by decide +kernel
theorem dX8_copyState_7 : decode cX8_copyState 7 = .ok (.if_icmp .ge 21, 3) := by decide +kernel
theorem dX8_copyState_10 : decode cX8_copyState 10 = .ok (.aload_n 2, 1) := by decide +kernel
theorem dX8_copyState_11 : decode cX8_copyState 11 = .ok (.iload_n 3, 1) := by decide +kernel
theorem dX8_copyState_12 : decode cX8_copyState 12 = .ok (.iload 4, 2) := by decide +kernel
theorem dX8_copyState_14 : decode cX8_copyState 14 = .ok (.iadd, 1) := by decide +kernel
theorem dX8_copyState_15 : decode cX8_copyState 15 = .ok (.aload_n 0, 1) := by decide +kernel
theorem dX8_copyState_16 : decode cX8_copyState 16 = .ok (.iload_n 1, 1) := by decide +kernel
theorem dX8_copyState_17 : decode cX8_copyState 17 = .ok (.iload 4, 2) := by decide +kernel
theorem dX8_copyState_19 : decode cX8_copyState 19 = .ok (.iadd, 1) := by decide +kernel
theorem dX8_copyState_20 : decode cX8_copyState 20 = .ok (.iaload, 1) := by decide +kernel
theorem dX8_copyState_21 : decode cX8_copyState 21 = .ok (.iastore, 1) := by decide +kernel
theorem dX8_copyState_22 : decode cX8_copyState 22 = .ok (.iinc 4 1, 3) := by decide +kernel
theorem dX8_copyState_25 : decode cX8_copyState 25 = .ok (.goto (-22), 3) := by decide +kernel
theorem dX8_copyState_28 : decode cX8_copyState 28 = .ok (.return_, 1) := by decide +kernel
theorem dX8_clear_0 : decode cX8_clear 0 = .ok (.iconst 0, 1) := by decide +kernel
theorem dX8_clear_1 : decode cX8_clear 1 = .ok (.istore_n 1, 1) := by decide +kernel
theorem dX8_clear_2 : decode cX8_clear 2 = .ok (.iload_n 1, 1) := by decide +kernel
theorem dX8_clear_3 : decode cX8_clear 3 = .ok (.bipush 107, 2) := by decide +kernel
theorem dX8_clear_5 : decode cX8_clear 5 = .ok (.if_icmp .ge 13, 3) := by decide +kernel
theorem dX8_clear_8 : decode cX8_clear 8 = .ok (.aload_n 0, 1) := by decide +kernel
theorem dX8_clear_9 : decode cX8_clear 9 = .ok (.iload_n 1, 1) := by decide +kernel
theorem dX8_clear_10 : decode cX8_clear 10 = .ok (.iconst 0, 1) := by decide +kernel
theorem dX8_clear_11 : decode cX8_clear 11 = .ok (.iastore, 1) := by decide +kernel
theorem dX8_clear_12 : decode cX8_clear 12 = .ok (.iinc 1 1, 3) := by decide +kernel
theorem dX8_clear_15 : decode cX8_clear 15 = .ok (.goto (-13), 3) := by decide +kernel
theorem dX8_clear_18 : decode cX8_clear 18 = .ok (.aload_n 0, 1) := by decide +kernel
theorem dX8_clear_19 : decode cX8_clear 19 = .ok (.iconst 0, 1) := by decide +kernel
theorem dX8_clear_20 : decode cX8_clear 20 = .ok (.bipush 9, 2) := by decide +kernel
theorem dX8_clear_22 : decode cX8_clear 22 = .ok (.iastore, 1) := by decide +kernel
theorem dX8_clear_23 : decode cX8_clear 23 = .ok (.aload_n 0, 1) := by decide +kernel
theorem dX8_clear_24 : decode cX8_clear 24 = .ok (.iconst 2, 1) := by decide +kernel
theorem dX8_clear_25 : decode cX8_clear 25 = .ok (.bipush 10, 2) := by decide +kernel
theorem dX8_clear_27 : decode cX8_clear 27 = .ok (.iastore, 1) := by decide +kernel
theorem dX8_clear_28 : decode cX8_clear 28 = .ok (.aload_n 0, 1) := by decide +kernel
theorem dX8_clear_29 : decode cX8_clear 29 = .ok (.iconst 3, 1) := by decide +kernel
theorem dX8_clear_30 : decode cX8_clear 30 = .ok (.bipush 10, 2) := by decide +kernel
theorem dX8_clear_32 : decode cX8_clear 32 = .ok (.iastore, 1) := by decide +kernel
theorem dX8_clear_33 : decode cX8_clear 33 = .ok (.return_, 1) := by decide +kernel
theorem dX8_allOf_0 : decode cX8_allOf 0 = .ok (.iconst 3, 1) := by decide +kernel
theorem dX8_allOf_1 : decode cX8_allOf 1 = .ok (.iconst 2, 1) := by decide +kernel
theorem dX8_allOf_2 : decode cX8_allOf 2 = .ok (.iload_n 0, 1) := by decide +kernel
theorem dX8_allOf_3 : decode cX8_allOf 3 = .ok (.imul, 1) := by decide +kernel
theorem dX8_allOf_4 : decode cX8_allOf 4 = .ok (.iconst 1, 1) := by decide +kernel
theorem dX8_allOf_5 : decode cX8_allOf 5 = .ok (.iadd, 1) := by decide +kernel
theorem dX8_allOf_6 : decode cX8_allOf 6 = .ok (.imul, 1) := by decide +kernel
theorem dX8_allOf_7 : decode cX8_allOf 7 = .ok (.ireturn, 1) := by decide +kernel
theorem dX8_isCoin_0 : decode cX8_isCoin 0 = .ok (.iload_n 1, 1) := by decide +kernel
theorem dX8_isCoin_1 : decode cX8_isCoin 1 = .ok (.i2l, 1) := by decide +kernel
theorem dX8_isCoin_2 : decode cX8_isCoin 2 = .ok (.lconst 0, 1) := by decide +kernel
theorem dX8_isCoin_3 : decode cX8_isCoin 3 = .ok (.aload_n 0, 1) := by decide +kernel
theorem dX8_isCoin_4 : decode cX8_isCoin 4 = .ok (.iconst 0, 1) := by decide +kernel
theorem dX8_isCoin_5 : decode cX8_isCoin 5 = .ok (.iaload, 1) := by decide +kernel
theorem dX8_isCoin_6 : decode cX8_isCoin 6 = .ok (.iconst 1, 1) := by decide +kernel
theorem dX8_isCoin_7 : decode cX8_isCoin 7 = .ok (.isub, 1) := by decide +kernel
theorem dX8_isCoin_8 : decode cX8_isCoin 8 = .ok (.i2l, 1) := by decide +kernel
theorem dX8_isCoin_9 : decode cX8_isCoin 9 = .ok (.invokestatic 43, 3) := by decide +kernel
theorem dX8_isCoin_12 : decode cX8_isCoin 12 = .ok (.ireturn, 1) := by decide +kernel
theorem dX8_isCoins_0 : decode cX8_isCoins 0 = .ok (.iload_n 0, 1) := by decide +kernel
theorem dX8_isCoins_1 : decode cX8_isCoins 1 = .ok (.i2l, 1) := by decide +kernel
theorem dX8_isCoins_2 : decode cX8_isCoins 2 = .ok (.ldc2_w 47, 3) := by decide +kernel
theorem dX8_isCoins_5 : decode cX8_isCoins 5 = .ok (.ldc2_w 49, 3) := by decide +kernel
theorem dX8_isCoins_8 : decode cX8_isCoins 8 = .ok (.invokestatic 43, 3) := by decide +kernel
theorem dX8_isCoins_11 : decode cX8_isCoins 11 = .ok (.ireturn, 1) := by decide +kernel
theorem dX8_isArms_0 : decode cX8_isArms 0 = .ok (.iload_n 0, 1) := by decide +kernel
theorem dX8_isArms_1 : decode cX8_isArms 1 = .ok (.i2l, 1) := by decide +kernel
theorem dX8_isArms_2 : decode cX8_isArms 2 = .ok (.lconst 1, 1) := by decide +kernel
theorem dX8_isArms_3 : decode cX8_isArms 3 = .ok (.ldc2_w 51, 3) := by decide +kernel
theorem dX8_isArms_6 : decode cX8_isArms 6 = .ok (.invokestatic 43, 3) := by decide +kernel
theorem dX8_isArms_9 : decode cX8_isArms 9 = .ok (.ifCond .eq 19, 3) := by decide +kernel
theorem dX8_isArms_12 : decode cX8_isArms 12 = .ok (.iload_n 1, 1) := by decide +kernel
theorem dX8_isArms_13 : decode cX8_isArms 13 = .ok (.i2l, 1) := by decide +kernel
theorem dX8_isArms_14 : decode cX8_isArms 14 = .ok (.lconst 1, 1) := by decide +kernel
theorem dX8_isArms_15 : decode cX8_isArms 15 = .ok (.ldc2_w 51, 3) := by decide +kernel
theorem dX8_isArms_18 : decode cX8_isArms 18 = .ok (.invokestatic 43, 3) := by decide +kernel
theorem dX8_isArms_21 : decode cX8_isArms 21 = .ok (.ifCond .eq 7, 3) := by decide +kernel
theorem dX8_isArms_24 : decode cX8_isArms 24 = .ok (.iconst 1, 1) := by decide +kernel
theorem dX8_isArms_25 : decode cX8_isArms 25 = .ok (.goto 4, 3) := by decide +kernel
theorem dX8_isArms_28 : decode cX8_isArms 28 = .ok (.iconst 0, 1) := by decide +kernel
theorem dX8_isArms_29 : decode cX8_isArms 29 = .ok (.ireturn, 1) := by decide +kernel
theorem dX8_isSet_0 : decode cX8_isSet 0 = .ok (.iload_n 1, 1) := by decide +kernel
theorem dX8_isSet_1 : decode cX8_isSet 1 = .ok (.i2l, 1) := by decide +kernel
theorem dX8_isSet_2 : decode cX8_isSet 2 = .ok (.lconst 0, 1) := by decide +kernel
theorem dX8_isSet_3 : decode cX8_isSet 3 = .ok (.iconst 1, 1) := by decide +kernel
theorem dX8_isSet_4 : decode cX8_isSet 4 = .ok (.aload_n 0, 1) := by decide +kernel
theorem dX8_isSet_5 : decode cX8_isSet 5 = .ok (.iconst 0, 1) := by decide +kernel
theorem dX8_isSet_6 : decode cX8_isSet 6 = .ok (.iaload, 1) := by decide +kernel
theorem dX8_isSet_7 : decode cX8_isSet 7 = .ok (.ishl, 1) := by decide +kernel
theorem dX8_isSet_8 : decode cX8_isSet 8 = .ok (.iconst 1, 1) := by decide +kernel
theorem dX8_isSet_9 : decode cX8_isSet 9 = .ok (.isub, 1) := by decide +kernel
theorem dX8_isSet_10 : decode cX8_isSet 10 = .ok (.i2l, 1) := by decide +kernel
theorem dX8_isSet_11 : decode cX8_isSet 11 = .ok (.invokestatic 43, 3) := by decide +kernel
theorem dX8_isSet_14 : decode cX8_isSet 14 = .ok (.ireturn, 1) := by decide +kernel
theorem dX8_isWeighing_0 : decode cX8_isWeighing 0 = .ok (.aload_n 0, 1) := by decide +kernel
theorem dX8_isWeighing_1 : decode cX8_isWeighing 1 = .ok (.iload_n 1, 1) := by decide +kernel
theorem dX8_isWeighing_2 : decode cX8_isWeighing 2 = .ok (.invokestatic 53, 3) := by decide +kernel
theorem dX8_isWeighing_5 : decode cX8_isWeighing 5 = .ok (.ifCond .eq 27, 3) := by decide +kernel
theorem dX8_isWeighing_8 : decode cX8_isWeighing 8 = .ok (.aload_n 0, 1) := by decide +kernel
theorem dX8_isWeighing_9 : decode cX8_isWeighing 9 = .ok (.iload_n 2, 1) := by decide +kernel
theorem dX8_isWeighing_10 : decode cX8_isWeighing 10 = .ok (.invokestatic 53, 3) := by decide +kernel
theorem dX8_isWeighing_13 : decode cX8_isWeighing 13 = .ok (.ifCond .eq 19, 3) := by decide +kernel
theorem dX8_isWeighing_16 : decode cX8_isWeighing 16 = .ok (.iload_n 1, 1) := by decide +kernel
theorem dX8_isWeighing_17 : decode cX8_isWeighing 17 = .ok (.iload_n 2, 1) := by decide +kernel
theorem dX8_isWeighing_18 : decode cX8_isWeighing 18 = .ok (.iand, 1) := by decide +kernel
theorem dX8_isWeighing_19 : decode cX8_isWeighing 19 = .ok (.ifCond .ne 13, 3) := by decide +kernel
theorem dX8_isWeighing_22 : decode cX8_isWeighing 22 = .ok (.iload_n 1, 1) := by decide +kernel
theorem dX8_isWeighing_23 : decode cX8_isWeighing 23 = .ok (.iload_n 2, 1) := by decide +kernel
theorem dX8_isWeighing_24 : decode cX8_isWeighing 24 = .ok (.ior, 1) := by decide +kernel
theorem dX8_isWeighing_25 : decode cX8_isWeighing 25 = .ok (.ifCond .le 7, 3) := by decide +kernel
theorem dX8_isWeighing_28 : decode cX8_isWeighing 28 = .ok (.iconst 1, 1) := by decide +kernel
theorem dX8_isWeighing_29 : decode cX8_isWeighing 29 = .ok (.goto 4, 3) := by decide +kernel
theorem dX8_isWeighing_32 : decode cX8_isWeighing 32 = .ok (.iconst 0, 1) := by decide +kernel
theorem dX8_isWeighing_33 : decode cX8_isWeighing 33 = .ok (.ireturn, 1) := by decide +kernel
theorem dX8_bits_0 : decode cX8_bits 0 = .ok (.iconst 0, 1) := by decide +kernel
theorem dX8_bits_1 : decode cX8_bits 1 = .ok (.istore_n 1, 1) := by decide +kernel
theorem dX8_bits_2 : decode cX8_bits 2 = .ok (.iconst 0, 1) := by decide +kernel
theorem dX8_bits_3 : decode cX8_bits 3 = .ok (.istore_n 2, 1) := by decide +kernel
theorem dX8_bits_4 : decode cX8_bits 4 = .ok (.iload_n 2, 1) := by decide +kernel
theorem dX8_bits_5 : decode cX8_bits 5 = .ok (.bipush 12, 2) := by decide +kernel
theorem dX8_bits_7 : decode cX8_bits 7 = .ok (.if_icmp .ge 17, 3) := by decide +kernel
theorem dX8_bits_10 : decode cX8_bits 10 = .ok (.iload_n 1, 1) := by decide +kernel
theorem dX8_bits_11 : decode cX8_bits 11 = .ok (.iload_n 0, 1) := by decide +kernel
theorem dX8_bits_12 : decode cX8_bits 12 = .ok (.iload_n 2, 1) := by decide +kernel
theorem dX8_bits_13 : decode cX8_bits 13 = .ok (.ishr, 1) := by decide +kernel
theorem dX8_bits_14 : decode cX8_bits 14 = .ok (.iconst 1, 1) := by decide +kernel
theorem dX8_bits_15 : decode cX8_bits 15 = .ok (.iand, 1) := by decide +kernel
theorem dX8_bits_16 : decode cX8_bits 16 = .ok (.iadd, 1) := by decide +kernel
theorem dX8_bits_17 : decode cX8_bits 17 = .ok (.istore_n 1, 1) := by decide +kernel
theorem dX8_bits_18 : decode cX8_bits 18 = .ok (.iinc 2 1, 3) := by decide +kernel
theorem dX8_bits_21 : decode cX8_bits 21 = .ok (.goto (-17), 3) := by decide +kernel
theorem dX8_bits_24 : decode cX8_bits 24 = .ok (.iload_n 1, 1) := by decide +kernel
theorem dX8_bits_25 : decode cX8_bits 25 = .ok (.ireturn, 1) := by decide +kernel
theorem dX8_weight_0 : decode cX8_weight 0 = .ok (.iload_n 1, 1) := by decide +kernel
theorem dX8_weight_1 : decode cX8_weight 1 = .ok (.iconst 2, 1) := by decide +kernel
theorem dX8_weight_2 : decode cX8_weight 2 = .ok (.idiv, 1) := by decide +kernel
theorem dX8_weight_3 : decode cX8_weight 3 = .ok (.bipush 12, 2) := by decide +kernel
theorem dX8_weight_5 : decode cX8_weight 5 = .ok (.if_icmp .ge 18, 3) := by decide +kernel
theorem dX8_weight_8 : decode cX8_weight 8 = .ok (.iload_n 0, 1) := by decide +kernel
theorem dX8_weight_9 : decode cX8_weight 9 = .ok (.iload_n 1, 1) := by decide +kernel
theorem dX8_weight_10 : decode cX8_weight 10 = .ok (.iconst 2, 1) := by decide +kernel
theorem dX8_weight_11 : decode cX8_weight 11 = .ok (.idiv, 1) := by decide +kernel
theorem dX8_weight_12 : decode cX8_weight 12 = .ok (.ishr, 1) := by decide +kernel
theorem dX8_weight_13 : decode cX8_weight 13 = .ok (.iconst 1, 1) := by decide +kernel
theorem dX8_weight_14 : decode cX8_weight 14 = .ok (.iand, 1) := by decide +kernel
theorem dX8_weight_15 : decode cX8_weight 15 = .ok (.iconst 1, 1) := by decide +kernel
theorem dX8_weight_16 : decode cX8_weight 16 = .ok (.if_icmp .ne 7, 3) := by decide +kernel
theorem dX8_weight_19 : decode cX8_weight 19 = .ok (.iconst 1, 1) := by decide +kernel
theorem dX8_weight_20 : decode cX8_weight 20 = .ok (.goto 4, 3) := by decide +kernel
theorem dX8_weight_23 : decode cX8_weight 23 = .ok (.iconst 0, 1) := by decide +kernel
theorem dX8_weight_24 : decode cX8_weight 24 = .ok (.istore_n 2, 1) := by decide +kernel
theorem dX8_weight_25 : decode cX8_weight 25 = .ok (.bipush 10, 2) := by decide +kernel
theorem dX8_weight_27 : decode cX8_weight 27 = .ok (.iload_n 0, 1) := by decide +kernel
theorem dX8_weight_28 : decode cX8_weight 28 = .ok (.invokestatic 57, 3) := by decide +kernel
theorem dX8_weight_31 : decode cX8_weight 31 = .ok (.imul, 1) := by decide +kernel
theorem dX8_weight_32 : decode cX8_weight 32 = .ok (.iload_n 2, 1) := by decide +kernel
theorem dX8_weight_33 : decode cX8_weight 33 = .ok (.ifCond .eq 13, 3) := by decide +kernel
theorem dX8_weight_36 : decode cX8_weight 36 = .ok (.iconst 2, 1) := by decide +kernel
theorem dX8_weight_37 : decode cX8_weight 37 = .ok (.iload_n 1, 1) := by decide +kernel
theorem dX8_weight_38 : decode cX8_weight 38 = .ok (.iconst 2, 1) := by decide +kernel
theorem dX8_weight_39 : decode cX8_weight 39 = .ok (.irem, 1) := by decide +kernel
theorem dX8_weight_40 : decode cX8_weight 40 = .ok (.imul, 1) := by decide +kernel
theorem dX8_weight_41 : decode cX8_weight 41 = .ok (.iconst 1, 1) := by decide +kernel
theorem dX8_weight_42 : decode cX8_weight 42 = .ok (.isub, 1) := by decide +kernel
theorem dX8_weight_43 : decode cX8_weight 43 = .ok (.goto 4, 3) := by decide +kernel
theorem dX8_weight_46 : decode cX8_weight 46 = .ok (.iconst 0, 1) := by decide +kernel
theorem dX8_weight_47 : decode cX8_weight 47 = .ok (.iadd, 1) := by decide +kernel
theorem dX8_weight_48 : decode cX8_weight 48 = .ok (.ireturn, 1) := by decide +kernel
theorem dX8_outcome_0 : decode cX8_outcome 0 = .ok (.iload_n 2, 1) := by decide +kernel
theorem dX8_outcome_1 : decode cX8_outcome 1 = .ok (.iload_n 0, 1) := by decide +kernel
theorem dX8_outcome_2 : decode cX8_outcome 2 = .ok (.iload 4, 2) := by decide +kernel
theorem dX8_outcome_4 : decode cX8_outcome 4 = .ok (.iconst 3, 1) := by decide +kernel
theorem dX8_outcome_5 : decode cX8_outcome 5 = .ok (.idiv, 1) := by decide +kernel
theorem dX8_outcome_6 : decode cX8_outcome 6 = .ok (.invokestatic 61, 3) := by decide +kernel
theorem dX8_outcome_9 : decode cX8_outcome 9 = .ok (.iload 4, 2) := by decide +kernel
theorem dX8_outcome_11 : decode cX8_outcome 11 = .ok (.iconst 3, 1) := by decide +kernel
theorem dX8_outcome_12 : decode cX8_outcome 12 = .ok (.irem, 1) := by decide +kernel
theorem dX8_outcome_13 : decode cX8_outcome 13 = .ok (.iconst 1, 1) := by decide +kernel
theorem dX8_outcome_14 : decode cX8_outcome 14 = .ok (.if_icmp .ne 7, 3) := by decide +kernel
theorem dX8_outcome_17 : decode cX8_outcome 17 = .ok (.iconst 1, 1) := by decide +kernel
theorem dX8_outcome_18 : decode cX8_outcome 18 = .ok (.goto 4, 3) := by decide +kernel
theorem dX8_outcome_21 : decode cX8_outcome 21 = .ok (.iconst 0, 1) := by decide +kernel
theorem dX8_outcome_22 : decode cX8_outcome 22 = .ok (.iadd, 1) := by decide +kernel
theorem dX8_outcome_23 : decode cX8_outcome 23 = .ok (.imul, 1) := by decide +kernel
theorem dX8_outcome_24 : decode cX8_outcome 24 = .ok (.istore 5, 2) := by decide +kernel
theorem dX8_outcome_26 : decode cX8_outcome 26 = .ok (.iload_n 3, 1) := by decide +kernel
theorem dX8_outcome_27 : decode cX8_outcome 27 = .ok (.iload_n 1, 1) := by decide +kernel
theorem dX8_outcome_28 : decode cX8_outcome 28 = .ok (.iload 4, 2) := by decide +kernel
theorem dX8_outcome_30 : decode cX8_outcome 30 = .ok (.iconst 3, 1) := by decide +kernel
theorem dX8_outcome_31 : decode cX8_outcome 31 = .ok (.idiv, 1) := by decide +kernel
theorem dX8_outcome_32 : decode cX8_outcome 32 = .ok (.invokestatic 61, 3) := by decide +kernel
theorem dX8_outcome_35 : decode cX8_outcome 35 = .ok (.iload 4, 2) := by decide +kernel
theorem dX8_outcome_37 : decode cX8_outcome 37 = .ok (.iconst 3, 1) := by decide +kernel
theorem dX8_outcome_38 : decode cX8_outcome 38 = .ok (.irem, 1) := by decide +kernel
theorem dX8_outcome_39 : decode cX8_outcome 39 = .ok (.iconst 2, 1) := by decide +kernel
theorem dX8_outcome_40 : decode cX8_outcome 40 = .ok (.if_icmp .ne 7, 3) := by decide +kernel
theorem dX8_outcome_43 : decode cX8_outcome 43 = .ok (.iconst 1, 1) := by decide +kernel
theorem dX8_outcome_44 : decode cX8_outcome 44 = .ok (.goto 4, 3) := by decide +kernel
theorem dX8_outcome_47 : decode cX8_outcome 47 = .ok (.iconst 0, 1) := by decide +kernel
theorem dX8_outcome_48 : decode cX8_outcome 48 = .ok (.iadd, 1) := by decide +kernel
theorem dX8_outcome_49 : decode cX8_outcome 49 = .ok (.imul, 1) := by decide +kernel
theorem dX8_outcome_50 : decode cX8_outcome 50 = .ok (.istore 6, 2) := by decide +kernel
theorem dX8_outcome_52 : decode cX8_outcome 52 = .ok (.iload 5, 2) := by decide +kernel
theorem dX8_outcome_54 : decode cX8_outcome 54 = .ok (.iload 6, 2) := by decide +kernel
theorem dX8_outcome_56 : decode cX8_outcome 56 = .ok (.if_icmp .le 7, 3) := by decide +kernel
theorem dX8_outcome_59 : decode cX8_outcome 59 = .ok (.iconst 1, 1) := by decide +kernel
theorem dX8_outcome_60 : decode cX8_outcome 60 = .ok (.goto 15, 3) := by decide +kernel
theorem dX8_outcome_63 : decode cX8_outcome 63 = .ok (.iload 5, 2) := by decide +kernel
theorem dX8_outcome_65 : decode cX8_outcome 65 = .ok (.iload 6, 2) := by decide +kernel
theorem dX8_outcome_67 : decode cX8_outcome 67 = .ok (.if_icmp .ge 7, 3) := by decide +kernel
theorem dX8_outcome_70 : decode cX8_outcome 70 = .ok (.iconst 2, 1) := by decide +kernel
theorem dX8_outcome_71 : decode cX8_outcome 71 = .ok (.goto 4, 3) := by decide +kernel
theorem dX8_outcome_74 : decode cX8_outcome 74 = .ok (.iconst 0, 1) := by decide +kernel
theorem dX8_outcome_75 : decode cX8_outcome 75 = .ok (.ireturn, 1) := by decide +kernel
theorem dX8_at_0 : decode cX8_at 0 = .ok (.bipush 7, 2) := by decide +kernel
theorem dX8_at_2 : decode cX8_at 2 = .ok (.iconst 5, 1) := by decide +kernel
theorem dX8_at_3 : decode cX8_at 3 = .ok (.iload_n 0, 1) := by decide +kernel
theorem dX8_at_4 : decode cX8_at 4 = .ok (.imul, 1) := by decide +kernel
theorem dX8_at_5 : decode cX8_at 5 = .ok (.iadd, 1) := by decide +kernel
theorem dX8_at_6 : decode cX8_at 6 = .ok (.ireturn, 1) := by decide +kernel
theorem dX8_fits_0 : decode cX8_fits 0 = .ok (.iconst 0, 1) := by decide +kernel
theorem dX8_fits_1 : decode cX8_fits 1 = .ok (.istore_n 3, 1) := by decide +kernel
theorem dX8_fits_2 : decode cX8_fits 2 = .ok (.iload_n 3, 1) := by decide +kernel
theorem dX8_fits_3 : decode cX8_fits 3 = .ok (.iload_n 2, 1) := by decide +kernel
theorem dX8_fits_4 : decode cX8_fits 4 = .ok (.if_icmp .ge 52, 3) := by decide +kernel
theorem dX8_fits_7 : decode cX8_fits 7 = .ok (.iload_n 3, 1) := by decide +kernel
theorem dX8_fits_8 : decode cX8_fits 8 = .ok (.invokestatic 65, 3) := by decide +kernel
theorem dX8_fits_11 : decode cX8_fits 11 = .ok (.istore 4, 2) := by decide +kernel
theorem dX8_fits_13 : decode cX8_fits 13 = .ok (.aload_n 0, 1) := by decide +kernel
theorem dX8_fits_14 : decode cX8_fits 14 = .ok (.iload 4, 2) := by decide +kernel
theorem dX8_fits_16 : decode cX8_fits 16 = .ok (.iaload, 1) := by decide +kernel
theorem dX8_fits_17 : decode cX8_fits 17 = .ok (.aload_n 0, 1) := by decide +kernel
theorem dX8_fits_18 : decode cX8_fits 18 = .ok (.iload 4, 2) := by decide +kernel
theorem dX8_fits_20 : decode cX8_fits 20 = .ok (.iconst 1, 1) := by decide +kernel
theorem dX8_fits_21 : decode cX8_fits 21 = .ok (.iadd, 1) := by decide +kernel
theorem dX8_fits_22 : decode cX8_fits 22 = .ok (.iaload, 1) := by decide +kernel
theorem dX8_fits_23 : decode cX8_fits 23 = .ok (.aload_n 0, 1) := by decide +kernel
theorem dX8_fits_24 : decode cX8_fits 24 = .ok (.iload 4, 2) := by decide +kernel
theorem dX8_fits_26 : decode cX8_fits 26 = .ok (.iconst 3, 1) := by decide +kernel
theorem dX8_fits_27 : decode cX8_fits 27 = .ok (.iadd, 1) := by decide +kernel
theorem dX8_fits_28 : decode cX8_fits 28 = .ok (.iaload, 1) := by decide +kernel
theorem dX8_fits_29 : decode cX8_fits 29 = .ok (.aload_n 0, 1) := by decide +kernel
theorem dX8_fits_30 : decode cX8_fits 30 = .ok (.iload 4, 2) := by decide +kernel
theorem dX8_fits_32 : decode cX8_fits 32 = .ok (.iconst 4, 1) := by decide +kernel
theorem dX8_fits_33 : decode cX8_fits 33 = .ok (.iadd, 1) := by decide +kernel
theorem dX8_fits_34 : decode cX8_fits 34 = .ok (.iaload, 1) := by decide +kernel
theorem dX8_fits_35 : decode cX8_fits 35 = .ok (.iload_n 1, 1) := by decide +kernel
theorem dX8_fits_36 : decode cX8_fits 36 = .ok (.invokestatic 68, 3) := by decide +kernel
theorem dX8_fits_39 : decode cX8_fits 39 = .ok (.aload_n 0, 1) := by decide +kernel
theorem dX8_fits_40 : decode cX8_fits 40 = .ok (.iload 4, 2) := by decide +kernel
theorem dX8_fits_42 : decode cX8_fits 42 = .ok (.iconst 2, 1) := by decide +kernel
theorem dX8_fits_43 : decode cX8_fits 43 = .ok (.iadd, 1) := by decide +kernel
theorem dX8_fits_44 : decode cX8_fits 44 = .ok (.iaload, 1) := by decide +kernel
theorem dX8_fits_45 : decode cX8_fits 45 = .ok (.if_icmp .eq 5, 3) := by decide +kernel
theorem dX8_fits_48 : decode cX8_fits 48 = .ok (.iconst 0, 1) := by decide +kernel
theorem dX8_fits_49 : decode cX8_fits 49 = .ok (.ireturn, 1) := by decide +kernel
theorem dX8_fits_50 : decode cX8_fits 50 = .ok (.iinc 3 1, 3) := by decide +kernel
theorem dX8_fits_53 : decode cX8_fits 53 = .ok (.goto (-51), 3) := by decide +kernel
theorem dX8_fits_56 : decode cX8_fits 56 = .ok (.iconst 1, 1) := by decide +kernel
theorem dX8_fits_57 : decode cX8_fits 57 = .ok (.ireturn, 1) := by decide +kernel
theorem dX8_many_0 : decode cX8_many 0 = .ok (.iconst 0, 1) := by decide +kernel
theorem dX8_many_1 : decode cX8_many 1 = .ok (.istore_n 2, 1) := by decide +kernel
theorem dX8_many_2 : decode cX8_many 2 = .ok (.iconst 0, 1) := by decide +kernel
theorem dX8_many_3 : decode cX8_many 3 = .ok (.istore_n 3, 1) := by decide +kernel
theorem dX8_many_4 : decode cX8_many 4 = .ok (.iload_n 3, 1) := by decide +kernel
theorem dX8_many_5 : decode cX8_many 5 = .ok (.aload_n 0, 1) := by decide +kernel
theorem dX8_many_6 : decode cX8_many 6 = .ok (.iconst 0, 1) := by decide +kernel
theorem dX8_many_7 : decode cX8_many 7 = .ok (.iaload, 1) := by decide +kernel
theorem dX8_many_8 : decode cX8_many 8 = .ok (.invokestatic 72, 3) := by decide +kernel
theorem dX8_many_11 : decode cX8_many 11 = .ok (.if_icmp .ge 26, 3) := by decide +kernel
theorem dX8_many_14 : decode cX8_many 14 = .ok (.iload_n 2, 1) := by decide +kernel
theorem dX8_many_15 : decode cX8_many 15 = .ok (.aload_n 0, 1) := by decide +kernel
theorem dX8_many_16 : decode cX8_many 16 = .ok (.iload_n 3, 1) := by decide +kernel
theorem dX8_many_17 : decode cX8_many 17 = .ok (.iload_n 1, 1) := by decide +kernel
theorem dX8_many_18 : decode cX8_many 18 = .ok (.invokestatic 75, 3) := by decide +kernel
theorem dX8_many_21 : decode cX8_many 21 = .ok (.ifCond .eq 7, 3) := by decide +kernel
theorem dX8_many_24 : decode cX8_many 24 = .ok (.iconst 1, 1) := by decide +kernel
theorem dX8_many_25 : decode cX8_many 25 = .ok (.goto 4, 3) := by decide +kernel
theorem dX8_many_28 : decode cX8_many 28 = .ok (.iconst 0, 1) := by decide +kernel
theorem dX8_many_29 : decode cX8_many 29 = .ok (.iadd, 1) := by decide +kernel
theorem dX8_many_30 : decode cX8_many 30 = .ok (.istore_n 2, 1) := by decide +kernel
theorem dX8_many_31 : decode cX8_many 31 = .ok (.iinc 3 1, 3) := by decide +kernel
theorem dX8_many_34 : decode cX8_many 34 = .ok (.goto (-30), 3) := by decide +kernel
theorem dX8_many_37 : decode cX8_many 37 = .ok (.iload_n 2, 1) := by decide +kernel
theorem dX8_many_38 : decode cX8_many 38 = .ok (.ireturn, 1) := by decide +kernel
theorem dX8_leftOf_0 : decode cX8_leftOf 0 = .ok (.aload_n 0, 1) := by decide +kernel
theorem dX8_leftOf_1 : decode cX8_leftOf 1 = .ok (.aload_n 0, 1) := by decide +kernel
theorem dX8_leftOf_2 : decode cX8_leftOf 2 = .ok (.iconst 4, 1) := by decide +kernel
theorem dX8_leftOf_3 : decode cX8_leftOf 3 = .ok (.iaload, 1) := by decide +kernel
theorem dX8_leftOf_4 : decode cX8_leftOf 4 = .ok (.invokestatic 79, 3) := by decide +kernel
theorem dX8_leftOf_7 : decode cX8_leftOf 7 = .ok (.ireturn, 1) := by decide +kernel
theorem dX8_gather_0 : decode cX8_gather 0 = .ok (.aload_n 0, 1) := by decide +kernel
theorem dX8_gather_1 : decode cX8_gather 1 = .ok (.iconst 0, 1) := by decide +kernel
theorem dX8_gather_2 : decode cX8_gather 2 = .ok (.putfield 83, 3) := by decide +kernel
theorem dX8_gather_5 : decode cX8_gather 5 = .ok (.iconst 0, 1) := by decide +kernel
theorem dX8_gather_6 : decode cX8_gather 6 = .ok (.istore_n 2, 1) := by decide +kernel
theorem dX8_gather_7 : decode cX8_gather 7 = .ok (.iload_n 2, 1) := by decide +kernel
theorem dX8_gather_8 : decode cX8_gather 8 = .ok (.aload_n 1, 1) := by decide +kernel
theorem dX8_gather_9 : decode cX8_gather 9 = .ok (.iconst 0, 1) := by decide +kernel
theorem dX8_gather_10 : decode cX8_gather 10 = .ok (.iaload, 1) := by decide +kernel
theorem dX8_gather_11 : decode cX8_gather 11 = .ok (.invokestatic 72, 3) := by decide +kernel
theorem dX8_gather_14 : decode cX8_gather 14 = .ok (.if_icmp .ge 40, 3) := by decide +kernel
theorem dX8_gather_17 : decode cX8_gather 17 = .ok (.aload_n 1, 1) := by decide +kernel
theorem dX8_gather_18 : decode cX8_gather 18 = .ok (.iload_n 2, 1) := by decide +kernel
theorem dX8_gather_19 : decode cX8_gather 19 = .ok (.aload_n 1, 1) := by decide +kernel
theorem dX8_gather_20 : decode cX8_gather 20 = .ok (.iconst 4, 1) := by decide +kernel
theorem dX8_gather_21 : decode cX8_gather 21 = .ok (.iaload, 1) := by decide +kernel
theorem dX8_gather_22 : decode cX8_gather 22 = .ok (.invokestatic 75, 3) := by decide +kernel
theorem dX8_gather_25 : decode cX8_gather 25 = .ok (.ifCond .eq 23, 3) := by decide +kernel
theorem dX8_gather_28 : decode cX8_gather 28 = .ok (.aload_n 0, 1) := by decide +kernel
theorem dX8_gather_29 : decode cX8_gather 29 = .ok (.getfield 29, 3) := by decide +kernel
theorem dX8_gather_32 : decode cX8_gather 32 = .ok (.aload_n 0, 1) := by decide +kernel
theorem dX8_gather_33 : decode cX8_gather 33 = .ok (.getfield 83, 3) := by decide +kernel
theorem dX8_gather_36 : decode cX8_gather 36 = .ok (.iload_n 2, 1) := by decide +kernel
theorem dX8_gather_37 : decode cX8_gather 37 = .ok (.iastore, 1) := by decide +kernel
theorem dX8_gather_38 : decode cX8_gather 38 = .ok (.aload_n 0, 1) := by decide +kernel
theorem dX8_gather_39 : decode cX8_gather 39 = .ok (.dup, 1) := by decide +kernel
theorem dX8_gather_40 : decode cX8_gather 40 = .ok (.getfield 83, 3) := by decide +kernel
theorem dX8_gather_43 : decode cX8_gather 43 = .ok (.iconst 1, 1) := by decide +kernel
theorem dX8_gather_44 : decode cX8_gather 44 = .ok (.iadd, 1) := by decide +kernel
theorem dX8_gather_45 : decode cX8_gather 45 = .ok (.putfield 83, 3) := by decide +kernel
theorem dX8_gather_48 : decode cX8_gather 48 = .ok (.iinc 2 1, 3) := by decide +kernel
theorem dX8_gather_51 : decode cX8_gather 51 = .ok (.goto (-44), 3) := by decide +kernel
theorem dX8_gather_54 : decode cX8_gather 54 = .ok (.return_, 1) := by decide +kernel
theorem dX8_worst_0 : decode cX8_worst 0 = .ok (.aload_n 0, 1) := by decide +kernel
theorem dX8_worst_1 : decode cX8_worst 1 = .ok (.getfield 32, 3) := by decide +kernel
theorem dX8_worst_4 : decode cX8_worst 4 = .ok (.iconst 0, 1) := by decide +kernel
theorem dX8_worst_5 : decode cX8_worst 5 = .ok (.iconst 0, 1) := by decide +kernel
theorem dX8_worst_6 : decode cX8_worst 6 = .ok (.iastore, 1) := by decide +kernel
theorem dX8_worst_7 : decode cX8_worst 7 = .ok (.aload_n 0, 1) := by decide +kernel
theorem dX8_worst_8 : decode cX8_worst 8 = .ok (.getfield 32, 3) := by decide +kernel
theorem dX8_worst_11 : decode cX8_worst 11 = .ok (.iconst 1, 1) := by decide +kernel
theorem dX8_worst_12 : decode cX8_worst 12 = .ok (.iconst 0, 1) := by decide +kernel
theorem dX8_worst_13 : decode cX8_worst 13 = .ok (.iastore, 1) := by decide +kernel
theorem dX8_worst_14 : decode cX8_worst 14 = .ok (.aload_n 0, 1) := by decide +kernel
theorem dX8_worst_15 : decode cX8_worst 15 = .ok (.getfield 32, 3) := by decide +kernel
theorem dX8_worst_18 : decode cX8_worst 18 = .ok (.iconst 2, 1) := by decide +kernel
theorem dX8_worst_19 : decode cX8_worst 19 = .ok (.iconst 0, 1) := by decide +kernel
theorem dX8_worst_20 : decode cX8_worst 20 = .ok (.iastore, 1) := by decide +kernel
theorem dX8_worst_21 : decode cX8_worst 21 = .ok (.iconst 0, 1) := by decide +kernel
theorem dX8_worst_22 : decode cX8_worst 22 = .ok (.istore 5, 2) := by decide +kernel
theorem dX8_worst_24 : decode cX8_worst 24 = .ok (.iload 5, 2) := by decide +kernel
theorem dX8_worst_26 : decode cX8_worst 26 = .ok (.aload_n 0, 1) := by decide +kernel
theorem dX8_worst_27 : decode cX8_worst 27 = .ok (.getfield 83, 3) := by decide +kernel
theorem dX8_worst_30 : decode cX8_worst 30 = .ok (.if_icmp .ge 33, 3) := by decide +kernel
theorem dX8_worst_33 : decode cX8_worst 33 = .ok (.aload_n 0, 1) := by decide +kernel
theorem dX8_worst_34 : decode cX8_worst 34 = .ok (.getfield 32, 3) := by decide +kernel
theorem dX8_worst_37 : decode cX8_worst 37 = .ok (.iload_n 1, 1) := by decide +kernel
theorem dX8_worst_38 : decode cX8_worst 38 = .ok (.iload_n 2, 1) := by decide +kernel
theorem dX8_worst_39 : decode cX8_worst 39 = .ok (.iload_n 3, 1) := by decide +kernel
theorem dX8_worst_40 : decode cX8_worst 40 = .ok (.iload 4, 2) := by decide +kernel
theorem dX8_worst_42 : decode cX8_worst 42 = .ok (.aload_n 0, 1) := by decide +kernel
theorem dX8_worst_43 : decode cX8_worst 43 = .ok (.getfield 29, 3) := by decide +kernel
theorem dX8_worst_46 : decode cX8_worst 46 = .ok (.iload 5, 2) := by decide +kernel
theorem dX8_worst_48 : decode cX8_worst 48 = .ok (.iaload, 1) := by decide +kernel
theorem dX8_worst_49 : decode cX8_worst 49 = .ok (.invokestatic 68, 3) := by decide +kernel
theorem dX8_worst_52 : decode cX8_worst 52 = .ok (.dup2, 1) := by decide +kernel
theorem dX8_worst_53 : decode cX8_worst 53 = .ok (.iaload, 1) := by decide +kernel
theorem dX8_worst_54 : decode cX8_worst 54 = .ok (.iconst 1, 1) := by decide +kernel
theorem dX8_worst_55 : decode cX8_worst 55 = .ok (.iadd, 1) := by decide +kernel
theorem dX8_worst_56 : decode cX8_worst 56 = .ok (.iastore, 1) := by decide +kernel
theorem dX8_worst_57 : decode cX8_worst 57 = .ok (.iinc 5 1, 3) := by decide +kernel
theorem dX8_worst_60 : decode cX8_worst 60 = .ok (.goto (-36), 3) := by decide +kernel
theorem dX8_worst_63 : decode cX8_worst 63 = .ok (.aload_n 0, 1) := by decide +kernel
theorem dX8_worst_64 : decode cX8_worst 64 = .ok (.getfield 32, 3) := by decide +kernel
theorem dX8_worst_67 : decode cX8_worst 67 = .ok (.iconst 0, 1) := by decide +kernel
theorem dX8_worst_68 : decode cX8_worst 68 = .ok (.iaload, 1) := by decide +kernel
theorem dX8_worst_69 : decode cX8_worst 69 = .ok (.aload_n 0, 1) := by decide +kernel
theorem dX8_worst_70 : decode cX8_worst 70 = .ok (.getfield 32, 3) := by decide +kernel
theorem dX8_worst_73 : decode cX8_worst 73 = .ok (.iconst 1, 1) := by decide +kernel
theorem dX8_worst_74 : decode cX8_worst 74 = .ok (.iaload, 1) := by decide +kernel
theorem dX8_worst_75 : decode cX8_worst 75 = .ok (.if_icmp .le 12, 3) := by decide +kernel
theorem dX8_worst_78 : decode cX8_worst 78 = .ok (.aload_n 0, 1) := by decide +kernel
theorem dX8_worst_79 : decode cX8_worst 79 = .ok (.getfield 32, 3) := by decide +kernel
theorem dX8_worst_82 : decode cX8_worst 82 = .ok (.iconst 0, 1) := by decide +kernel
theorem dX8_worst_83 : decode cX8_worst 83 = .ok (.iaload, 1) := by decide +kernel
theorem dX8_worst_84 : decode cX8_worst 84 = .ok (.goto 9, 3) := by decide +kernel
theorem dX8_worst_87 : decode cX8_worst 87 = .ok (.aload_n 0, 1) := by decide +kernel
theorem dX8_worst_88 : decode cX8_worst 88 = .ok (.getfield 32, 3) := by decide +kernel
theorem dX8_worst_91 : decode cX8_worst 91 = .ok (.iconst 1, 1) := by decide +kernel
theorem dX8_worst_92 : decode cX8_worst 92 = .ok (.iaload, 1) := by decide +kernel
theorem dX8_worst_93 : decode cX8_worst 93 = .ok (.istore 5, 2) := by decide +kernel
theorem dX8_worst_95 : decode cX8_worst 95 = .ok (.iload 5, 2) := by decide +kernel
theorem dX8_worst_97 : decode cX8_worst 97 = .ok (.aload_n 0, 1) := by decide +kernel
theorem dX8_worst_98 : decode cX8_worst 98 = .ok (.getfield 32, 3) := by decide +kernel
theorem dX8_worst_101 : decode cX8_worst 101 = .ok (.iconst 2, 1) := by decide +kernel
theorem dX8_worst_102 : decode cX8_worst 102 = .ok (.iaload, 1) := by decide +kernel
theorem dX8_worst_103 : decode cX8_worst 103 = .ok (.if_icmp .le 8, 3) := by decide +kernel
theorem dX8_worst_106 : decode cX8_worst 106 = .ok (.iload 5, 2) := by decide +kernel
theorem dX8_worst_108 : decode cX8_worst 108 = .ok (.goto 9, 3) := by decide +kernel
theorem dX8_worst_111 : decode cX8_worst 111 = .ok (.aload_n 0, 1) := by decide +kernel
theorem dX8_worst_112 : decode cX8_worst 112 = .ok (.getfield 32, 3) := by decide +kernel
theorem dX8_worst_115 : decode cX8_worst 115 = .ok (.iconst 2, 1) := by decide +kernel
theorem dX8_worst_116 : decode cX8_worst 116 = .ok (.iaload, 1) := by decide +kernel
theorem dX8_worst_117 : decode cX8_worst 117 = .ok (.ireturn, 1) := by decide +kernel
theorem dX8_coinOf_0 : decode cX8_coinOf 0 = .ok (.iconst 0, 1) := by decide +kernel
theorem dX8_coinOf_1 : decode cX8_coinOf 1 = .ok (.istore_n 2, 1) := by decide +kernel
theorem dX8_coinOf_2 : decode cX8_coinOf 2 = .ok (.iconst 0, 1) := by decide +kernel
theorem dX8_coinOf_3 : decode cX8_coinOf 3 = .ok (.istore_n 3, 1) := by decide +kernel
theorem dX8_coinOf_4 : decode cX8_coinOf 4 = .ok (.iload_n 3, 1) := by decide +kernel
theorem dX8_coinOf_5 : decode cX8_coinOf 5 = .ok (.aload_n 0, 1) := by decide +kernel
theorem dX8_coinOf_6 : decode cX8_coinOf 6 = .ok (.iconst 0, 1) := by decide +kernel
theorem dX8_coinOf_7 : decode cX8_coinOf 7 = .ok (.iaload, 1) := by decide +kernel
theorem dX8_coinOf_8 : decode cX8_coinOf 8 = .ok (.invokestatic 72, 3) := by decide +kernel
theorem dX8_coinOf_11 : decode cX8_coinOf 11 = .ok (.if_icmp .ge 48, 3) := by decide +kernel
theorem dX8_coinOf_14 : decode cX8_coinOf 14 = .ok (.aload_n 0, 1) := by decide +kernel
theorem dX8_coinOf_15 : decode cX8_coinOf 15 = .ok (.iload_n 3, 1) := by decide +kernel
theorem dX8_coinOf_16 : decode cX8_coinOf 16 = .ok (.aload_n 0, 1) := by decide +kernel
theorem dX8_coinOf_17 : decode cX8_coinOf 17 = .ok (.iconst 4, 1) := by decide +kernel
theorem dX8_coinOf_18 : decode cX8_coinOf 18 = .ok (.iaload, 1) := by decide +kernel
theorem dX8_coinOf_19 : decode cX8_coinOf 19 = .ok (.invokestatic 75, 3) := by decide +kernel
theorem dX8_coinOf_22 : decode cX8_coinOf 22 = .ok (.ifCond .eq 31, 3) := by decide +kernel
theorem dX8_coinOf_25 : decode cX8_coinOf 25 = .ok (.iload_n 2, 1) := by decide +kernel
theorem dX8_coinOf_26 : decode cX8_coinOf 26 = .ok (.iload_n 3, 1) := by decide +kernel
theorem dX8_coinOf_27 : decode cX8_coinOf 27 = .ok (.bipush 6, 2) := by decide +kernel
theorem dX8_coinOf_29 : decode cX8_coinOf 29 = .ok (.idiv, 1) := by decide +kernel
theorem dX8_coinOf_30 : decode cX8_coinOf 30 = .ok (.iload_n 1, 1) := by decide +kernel
theorem dX8_coinOf_31 : decode cX8_coinOf 31 = .ok (.if_icmp .ne 19, 3) := by decide +kernel
theorem dX8_coinOf_34 : decode cX8_coinOf 34 = .ok (.iload_n 3, 1) := by decide +kernel
theorem dX8_coinOf_35 : decode cX8_coinOf 35 = .ok (.iconst 3, 1) := by decide +kernel
theorem dX8_coinOf_36 : decode cX8_coinOf 36 = .ok (.idiv, 1) := by decide +kernel
theorem dX8_coinOf_37 : decode cX8_coinOf 37 = .ok (.iconst 2, 1) := by decide +kernel
theorem dX8_coinOf_38 : decode cX8_coinOf 38 = .ok (.irem, 1) := by decide +kernel
theorem dX8_coinOf_39 : decode cX8_coinOf 39 = .ok (.ifCond .ne 7, 3) := by decide +kernel
theorem dX8_coinOf_42 : decode cX8_coinOf 42 = .ok (.iconst 1, 1) := by decide +kernel
theorem dX8_coinOf_43 : decode cX8_coinOf 43 = .ok (.goto 8, 3) := by decide +kernel
theorem dX8_coinOf_46 : decode cX8_coinOf 46 = .ok (.iconst 2, 1) := by decide +kernel
end
section
theorem dX8_coinOf_47 : decode cX8_coinOf 47 = .ok (.goto 4, 3) := by decide +kernel
theorem dX8_coinOf_50 : decode cX8_coinOf 50 = .ok (.iconst 4, 1) := by decide +kernel
theorem dX8_coinOf_51 : decode cX8_coinOf 51 = .ok (.ior, 1) := by decide +kernel
theorem dX8_coinOf_52 : decode cX8_coinOf 52 = .ok (.istore_n 2, 1) := by decide +kernel
theorem dX8_coinOf_53 : decode cX8_coinOf 53 = .ok (.iinc 3 1, 3) := by decide +kernel
theorem dX8_coinOf_56 : decode cX8_coinOf 56 = .ok (.goto (-52), 3) := by decide +kernel
theorem dX8_coinOf_59 : decode cX8_coinOf 59 = .ok (.iload_n 2, 1) := by decide +kernel
theorem dX8_coinOf_60 : decode cX8_coinOf 60 = .ok (.ireturn, 1) := by decide +kernel
theorem dX8_pansOf_0 : decode cX8_pansOf 0 = .ok (.iconst 0, 1) := by decide +kernel
theorem dX8_pansOf_1 : decode cX8_pansOf 1 = .ok (.istore_n 1, 1) := by decide +kernel
theorem dX8_pansOf_2 : decode cX8_pansOf 2 = .ok (.iconst 0, 1) := by decide +kernel
theorem dX8_pansOf_3 : decode cX8_pansOf 3 = .ok (.istore_n 2, 1) := by decide +kernel
theorem dX8_pansOf_4 : decode cX8_pansOf 4 = .ok (.iload_n 2, 1) := by decide +kernel
theorem dX8_pansOf_5 : decode cX8_pansOf 5 = .ok (.aload_n 0, 1) := by decide +kernel
theorem dX8_pansOf_6 : decode cX8_pansOf 6 = .ok (.iconst 0, 1) := by decide +kernel
theorem dX8_pansOf_7 : decode cX8_pansOf 7 = .ok (.iaload, 1) := by decide +kernel
theorem dX8_pansOf_8 : decode cX8_pansOf 8 = .ok (.invokestatic 72, 3) := by decide +kernel
theorem dX8_pansOf_11 : decode cX8_pansOf 11 = .ok (.if_icmp .ge 32, 3) := by decide +kernel
theorem dX8_pansOf_14 : decode cX8_pansOf 14 = .ok (.iload_n 1, 1) := by decide +kernel
theorem dX8_pansOf_15 : decode cX8_pansOf 15 = .ok (.aload_n 0, 1) := by decide +kernel
theorem dX8_pansOf_16 : decode cX8_pansOf 16 = .ok (.iload_n 2, 1) := by decide +kernel
theorem dX8_pansOf_17 : decode cX8_pansOf 17 = .ok (.aload_n 0, 1) := by decide +kernel
theorem dX8_pansOf_18 : decode cX8_pansOf 18 = .ok (.iconst 4, 1) := by decide +kernel
theorem dX8_pansOf_19 : decode cX8_pansOf 19 = .ok (.iaload, 1) := by decide +kernel
theorem dX8_pansOf_20 : decode cX8_pansOf 20 = .ok (.invokestatic 75, 3) := by decide +kernel
theorem dX8_pansOf_23 : decode cX8_pansOf 23 = .ok (.ifCond .eq 11, 3) := by decide +kernel
theorem dX8_pansOf_26 : decode cX8_pansOf 26 = .ok (.iconst 1, 1) := by decide +kernel
theorem dX8_pansOf_27 : decode cX8_pansOf 27 = .ok (.iload_n 2, 1) := by decide +kernel
theorem dX8_pansOf_28 : decode cX8_pansOf 28 = .ok (.iconst 3, 1) := by decide +kernel
theorem dX8_pansOf_29 : decode cX8_pansOf 29 = .ok (.irem, 1) := by decide +kernel
theorem dX8_pansOf_30 : decode cX8_pansOf 30 = .ok (.ishl, 1) := by decide +kernel
theorem dX8_pansOf_31 : decode cX8_pansOf 31 = .ok (.goto 4, 3) := by decide +kernel
theorem dX8_pansOf_34 : decode cX8_pansOf 34 = .ok (.iconst 0, 1) := by decide +kernel
theorem dX8_pansOf_35 : decode cX8_pansOf 35 = .ok (.ior, 1) := by decide +kernel
theorem dX8_pansOf_36 : decode cX8_pansOf 36 = .ok (.istore_n 1, 1) := by decide +kernel
theorem dX8_pansOf_37 : decode cX8_pansOf 37 = .ok (.iinc 2 1, 3) := by decide +kernel
theorem dX8_pansOf_40 : decode cX8_pansOf 40 = .ok (.goto (-36), 3) := by decide +kernel
theorem dX8_pansOf_43 : decode cX8_pansOf 43 = .ok (.iload_n 1, 1) := by decide +kernel
theorem dX8_pansOf_44 : decode cX8_pansOf 44 = .ok (.ireturn, 1) := by decide +kernel
theorem dX8_needsOf_0 : decode cX8_needsOf 0 = .ok (.iconst 0, 1) := by decide +kernel
theorem dX8_needsOf_1 : decode cX8_needsOf 1 = .ok (.istore_n 1, 1) := by decide +kernel
theorem dX8_needsOf_2 : decode cX8_needsOf 2 = .ok (.iconst 1, 1) := by decide +kernel
theorem dX8_needsOf_3 : decode cX8_needsOf 3 = .ok (.istore_n 2, 1) := by decide +kernel
theorem dX8_needsOf_4 : decode cX8_needsOf 4 = .ok (.aload_n 0, 1) := by decide +kernel
theorem dX8_needsOf_5 : decode cX8_needsOf 5 = .ok (.invokestatic 86, 3) := by decide +kernel
theorem dX8_needsOf_8 : decode cX8_needsOf 8 = .ok (.istore_n 3, 1) := by decide +kernel
theorem dX8_needsOf_9 : decode cX8_needsOf 9 = .ok (.iload_n 2, 1) := by decide +kernel
theorem dX8_needsOf_10 : decode cX8_needsOf 10 = .ok (.iload_n 3, 1) := by decide +kernel
theorem dX8_needsOf_11 : decode cX8_needsOf 11 = .ok (.if_icmp .ge 13, 3) := by decide +kernel
theorem dX8_needsOf_14 : decode cX8_needsOf 14 = .ok (.iload_n 2, 1) := by decide +kernel
theorem dX8_needsOf_15 : decode cX8_needsOf 15 = .ok (.iconst 3, 1) := by decide +kernel
theorem dX8_needsOf_16 : decode cX8_needsOf 16 = .ok (.imul, 1) := by decide +kernel
theorem dX8_needsOf_17 : decode cX8_needsOf 17 = .ok (.istore_n 2, 1) := by decide +kernel
theorem dX8_needsOf_18 : decode cX8_needsOf 18 = .ok (.iinc 1 1, 3) := by decide +kernel
theorem dX8_needsOf_21 : decode cX8_needsOf 21 = .ok (.goto (-12), 3) := by decide +kernel
theorem dX8_needsOf_24 : decode cX8_needsOf 24 = .ok (.iload_n 1, 1) := by decide +kernel
theorem dX8_needsOf_25 : decode cX8_needsOf 25 = .ok (.ireturn, 1) := by decide +kernel
theorem dX8_hideOn_0 : decode cX8_hideOn 0 = .ok (.aload_n 0, 1) := by decide +kernel
theorem dX8_hideOn_1 : decode cX8_hideOn 1 = .ok (.iconst 0, 1) := by decide +kernel
theorem dX8_hideOn_2 : decode cX8_hideOn 2 = .ok (.iload_n 1, 1) := by decide +kernel
theorem dX8_hideOn_3 : decode cX8_hideOn 3 = .ok (.iastore, 1) := by decide +kernel
theorem dX8_hideOn_4 : decode cX8_hideOn 4 = .ok (.aload_n 0, 1) := by decide +kernel
theorem dX8_hideOn_5 : decode cX8_hideOn 5 = .ok (.iconst 1, 1) := by decide +kernel
theorem dX8_hideOn_6 : decode cX8_hideOn 6 = .ok (.iload_n 2, 1) := by decide +kernel
theorem dX8_hideOn_7 : decode cX8_hideOn 7 = .ok (.iastore, 1) := by decide +kernel
theorem dX8_hideOn_8 : decode cX8_hideOn 8 = .ok (.aload_n 0, 1) := by decide +kernel
theorem dX8_hideOn_9 : decode cX8_hideOn 9 = .ok (.iconst 4, 1) := by decide +kernel
theorem dX8_hideOn_10 : decode cX8_hideOn 10 = .ok (.iconst 0, 1) := by decide +kernel
theorem dX8_hideOn_11 : decode cX8_hideOn 11 = .ok (.iastore, 1) := by decide +kernel
theorem dX8_hideOn_12 : decode cX8_hideOn 12 = .ok (.iload_n 1, 1) := by decide +kernel
theorem dX8_hideOn_13 : decode cX8_hideOn 13 = .ok (.invokestatic 72, 3) := by decide +kernel
theorem dX8_hideOn_16 : decode cX8_hideOn 16 = .ok (.ireturn, 1) := by decide +kernel
theorem dX8_armsOn_0 : decode cX8_armsOn 0 = .ok (.aload_n 0, 1) := by decide +kernel
theorem dX8_armsOn_1 : decode cX8_armsOn 1 = .ok (.iconst 2, 1) := by decide +kernel
theorem dX8_armsOn_2 : decode cX8_armsOn 2 = .ok (.iload_n 1, 1) := by decide +kernel
theorem dX8_armsOn_3 : decode cX8_armsOn 3 = .ok (.iastore, 1) := by decide +kernel
theorem dX8_armsOn_4 : decode cX8_armsOn 4 = .ok (.aload_n 0, 1) := by decide +kernel
theorem dX8_armsOn_5 : decode cX8_armsOn 5 = .ok (.iconst 3, 1) := by decide +kernel
theorem dX8_armsOn_6 : decode cX8_armsOn 6 = .ok (.iload_n 2, 1) := by decide +kernel
theorem dX8_armsOn_7 : decode cX8_armsOn 7 = .ok (.iastore, 1) := by decide +kernel
theorem dX8_armsOn_8 : decode cX8_armsOn 8 = .ok (.iload_n 1, 1) := by decide +kernel
theorem dX8_armsOn_9 : decode cX8_armsOn 9 = .ok (.iload_n 2, 1) := by decide +kernel
theorem dX8_armsOn_10 : decode cX8_armsOn 10 = .ok (.if_icmp .ne 7, 3) := by decide +kernel
theorem dX8_armsOn_13 : decode cX8_armsOn 13 = .ok (.iconst 1, 1) := by decide +kernel
theorem dX8_armsOn_14 : decode cX8_armsOn 14 = .ok (.goto 4, 3) := by decide +kernel
theorem dX8_armsOn_17 : decode cX8_armsOn 17 = .ok (.iconst 0, 1) := by decide +kernel
theorem dX8_armsOn_18 : decode cX8_armsOn 18 = .ok (.ireturn, 1) := by decide +kernel
theorem dX8_canWeigh_0 : decode cX8_canWeigh 0 = .ok (.aload_n 0, 1) := by decide +kernel
theorem dX8_canWeigh_1 : decode cX8_canWeigh 1 = .ok (.iload_n 1, 1) := by decide +kernel
theorem dX8_canWeigh_2 : decode cX8_canWeigh 2 = .ok (.iload_n 2, 1) := by decide +kernel
theorem dX8_canWeigh_3 : decode cX8_canWeigh 3 = .ok (.invokestatic 90, 3) := by decide +kernel
theorem dX8_canWeigh_6 : decode cX8_canWeigh 6 = .ok (.ifCond .eq 15, 3) := by decide +kernel
theorem dX8_canWeigh_9 : decode cX8_canWeigh 9 = .ok (.aload_n 0, 1) := by decide +kernel
theorem dX8_canWeigh_10 : decode cX8_canWeigh 10 = .ok (.iconst 4, 1) := by decide +kernel
theorem dX8_canWeigh_11 : decode cX8_canWeigh 11 = .ok (.iaload, 1) := by decide +kernel
theorem dX8_canWeigh_12 : decode cX8_canWeigh 12 = .ok (.bipush 20, 2) := by decide +kernel
theorem dX8_canWeigh_14 : decode cX8_canWeigh 14 = .ok (.if_icmp .ge 7, 3) := by decide +kernel
theorem dX8_canWeigh_17 : decode cX8_canWeigh 17 = .ok (.iconst 1, 1) := by decide +kernel
theorem dX8_canWeigh_18 : decode cX8_canWeigh 18 = .ok (.goto 4, 3) := by decide +kernel
theorem dX8_canWeigh_21 : decode cX8_canWeigh 21 = .ok (.iconst 0, 1) := by decide +kernel
theorem dX8_canWeigh_22 : decode cX8_canWeigh 22 = .ok (.ireturn, 1) := by decide +kernel
theorem dX8_weighOn_0 : decode cX8_weighOn 0 = .ok (.aload_n 0, 1) := by decide +kernel
theorem dX8_weighOn_1 : decode cX8_weighOn 1 = .ok (.iconst 4, 1) := by decide +kernel
theorem dX8_weighOn_2 : decode cX8_weighOn 2 = .ok (.iaload, 1) := by decide +kernel
theorem dX8_weighOn_3 : decode cX8_weighOn 3 = .ok (.invokestatic 65, 3) := by decide +kernel
theorem dX8_weighOn_6 : decode cX8_weighOn 6 = .ok (.istore_n 3, 1) := by decide +kernel
theorem dX8_weighOn_7 : decode cX8_weighOn 7 = .ok (.aload_n 0, 1) := by decide +kernel
theorem dX8_weighOn_8 : decode cX8_weighOn 8 = .ok (.iload_n 3, 1) := by decide +kernel
theorem dX8_weighOn_9 : decode cX8_weighOn 9 = .ok (.iload_n 1, 1) := by decide +kernel
theorem dX8_weighOn_10 : decode cX8_weighOn 10 = .ok (.iastore, 1) := by decide +kernel
theorem dX8_weighOn_11 : decode cX8_weighOn 11 = .ok (.aload_n 0, 1) := by decide +kernel
theorem dX8_weighOn_12 : decode cX8_weighOn 12 = .ok (.iload_n 3, 1) := by decide +kernel
theorem dX8_weighOn_13 : decode cX8_weighOn 13 = .ok (.iconst 1, 1) := by decide +kernel
theorem dX8_weighOn_14 : decode cX8_weighOn 14 = .ok (.iadd, 1) := by decide +kernel
theorem dX8_weighOn_15 : decode cX8_weighOn 15 = .ok (.iload_n 2, 1) := by decide +kernel
theorem dX8_weighOn_16 : decode cX8_weighOn 16 = .ok (.iastore, 1) := by decide +kernel
theorem dX8_weighOn_17 : decode cX8_weighOn 17 = .ok (.aload_n 0, 1) := by decide +kernel
theorem dX8_weighOn_18 : decode cX8_weighOn 18 = .ok (.iload_n 3, 1) := by decide +kernel
theorem dX8_weighOn_19 : decode cX8_weighOn 19 = .ok (.iconst 2, 1) := by decide +kernel
theorem dX8_weighOn_20 : decode cX8_weighOn 20 = .ok (.iadd, 1) := by decide +kernel
theorem dX8_weighOn_21 : decode cX8_weighOn 21 = .ok (.iload_n 1, 1) := by decide +kernel
theorem dX8_weighOn_22 : decode cX8_weighOn 22 = .ok (.iload_n 2, 1) := by decide +kernel
theorem dX8_weighOn_23 : decode cX8_weighOn 23 = .ok (.aload_n 0, 1) := by decide +kernel
theorem dX8_weighOn_24 : decode cX8_weighOn 24 = .ok (.iconst 2, 1) := by decide +kernel
theorem dX8_weighOn_25 : decode cX8_weighOn 25 = .ok (.iaload, 1) := by decide +kernel
theorem dX8_weighOn_26 : decode cX8_weighOn 26 = .ok (.aload_n 0, 1) := by decide +kernel
theorem dX8_weighOn_27 : decode cX8_weighOn 27 = .ok (.iconst 3, 1) := by decide +kernel
theorem dX8_weighOn_28 : decode cX8_weighOn 28 = .ok (.iaload, 1) := by decide +kernel
theorem dX8_weighOn_29 : decode cX8_weighOn 29 = .ok (.aload_n 0, 1) := by decide +kernel
theorem dX8_weighOn_30 : decode cX8_weighOn 30 = .ok (.iconst 1, 1) := by decide +kernel
theorem dX8_weighOn_31 : decode cX8_weighOn 31 = .ok (.iaload, 1) := by decide +kernel
theorem dX8_weighOn_32 : decode cX8_weighOn 32 = .ok (.invokestatic 68, 3) := by decide +kernel
theorem dX8_weighOn_35 : decode cX8_weighOn 35 = .ok (.iastore, 1) := by decide +kernel
theorem dX8_weighOn_36 : decode cX8_weighOn 36 = .ok (.aload_n 0, 1) := by decide +kernel
theorem dX8_weighOn_37 : decode cX8_weighOn 37 = .ok (.iload_n 3, 1) := by decide +kernel
theorem dX8_weighOn_38 : decode cX8_weighOn 38 = .ok (.iconst 3, 1) := by decide +kernel
theorem dX8_weighOn_39 : decode cX8_weighOn 39 = .ok (.iadd, 1) := by decide +kernel
theorem dX8_weighOn_40 : decode cX8_weighOn 40 = .ok (.aload_n 0, 1) := by decide +kernel
theorem dX8_weighOn_41 : decode cX8_weighOn 41 = .ok (.iconst 2, 1) := by decide +kernel
theorem dX8_weighOn_42 : decode cX8_weighOn 42 = .ok (.iaload, 1) := by decide +kernel
theorem dX8_weighOn_43 : decode cX8_weighOn 43 = .ok (.iastore, 1) := by decide +kernel
theorem dX8_weighOn_44 : decode cX8_weighOn 44 = .ok (.aload_n 0, 1) := by decide +kernel
theorem dX8_weighOn_45 : decode cX8_weighOn 45 = .ok (.iload_n 3, 1) := by decide +kernel
theorem dX8_weighOn_46 : decode cX8_weighOn 46 = .ok (.iconst 4, 1) := by decide +kernel
theorem dX8_weighOn_47 : decode cX8_weighOn 47 = .ok (.iadd, 1) := by decide +kernel
theorem dX8_weighOn_48 : decode cX8_weighOn 48 = .ok (.aload_n 0, 1) := by decide +kernel
theorem dX8_weighOn_49 : decode cX8_weighOn 49 = .ok (.iconst 3, 1) := by decide +kernel
theorem dX8_weighOn_50 : decode cX8_weighOn 50 = .ok (.iaload, 1) := by decide +kernel
theorem dX8_weighOn_51 : decode cX8_weighOn 51 = .ok (.iastore, 1) := by decide +kernel
theorem dX8_weighOn_52 : decode cX8_weighOn 52 = .ok (.aload_n 0, 1) := by decide +kernel
theorem dX8_weighOn_53 : decode cX8_weighOn 53 = .ok (.iconst 4, 1) := by decide +kernel
theorem dX8_weighOn_54 : decode cX8_weighOn 54 = .ok (.dup2, 1) := by decide +kernel
theorem dX8_weighOn_55 : decode cX8_weighOn 55 = .ok (.iaload, 1) := by decide +kernel
theorem dX8_weighOn_56 : decode cX8_weighOn 56 = .ok (.iconst 1, 1) := by decide +kernel
theorem dX8_weighOn_57 : decode cX8_weighOn 57 = .ok (.iadd, 1) := by decide +kernel
theorem dX8_weighOn_58 : decode cX8_weighOn 58 = .ok (.iastore, 1) := by decide +kernel
theorem dX8_weighOn_59 : decode cX8_weighOn 59 = .ok (.aload_n 0, 1) := by decide +kernel
theorem dX8_weighOn_60 : decode cX8_weighOn 60 = .ok (.iload_n 3, 1) := by decide +kernel
theorem dX8_weighOn_61 : decode cX8_weighOn 61 = .ok (.iconst 2, 1) := by decide +kernel
theorem dX8_weighOn_62 : decode cX8_weighOn 62 = .ok (.iadd, 1) := by decide +kernel
theorem dX8_weighOn_63 : decode cX8_weighOn 63 = .ok (.iaload, 1) := by decide +kernel
theorem dX8_weighOn_64 : decode cX8_weighOn 64 = .ok (.ireturn, 1) := by decide +kernel
theorem dX8_told_0 : decode cX8_told 0 = .ok (.aload_n 0, 1) := by decide +kernel
theorem dX8_told_1 : decode cX8_told 1 = .ok (.iload_n 1, 1) := by decide +kernel
theorem dX8_told_2 : decode cX8_told 2 = .ok (.ifCond .eq 7, 3) := by decide +kernel
theorem dX8_told_5 : decode cX8_told 5 = .ok (.iconst 5, 1) := by decide +kernel
theorem dX8_told_6 : decode cX8_told 6 = .ok (.goto 5, 3) := by decide +kernel
theorem dX8_told_9 : decode cX8_told 9 = .ok (.bipush 6, 2) := by decide +kernel
theorem dX8_told_11 : decode cX8_told 11 = .ok (.dup2, 1) := by decide +kernel
theorem dX8_told_12 : decode cX8_told 12 = .ok (.iaload, 1) := by decide +kernel
theorem dX8_told_13 : decode cX8_told 13 = .ok (.iconst 1, 1) := by decide +kernel
theorem dX8_told_14 : decode cX8_told 14 = .ok (.iadd, 1) := by decide +kernel
theorem dX8_told_15 : decode cX8_told 15 = .ok (.iastore, 1) := by decide +kernel
theorem dX8_told_16 : decode cX8_told 16 = .ok (.iload_n 1, 1) := by decide +kernel
theorem dX8_told_17 : decode cX8_told 17 = .ok (.ifCond .eq 7, 3) := by decide +kernel
theorem dX8_told_20 : decode cX8_told 20 = .ok (.iconst 1, 1) := by decide +kernel
theorem dX8_told_21 : decode cX8_told 21 = .ok (.goto 4, 3) := by decide +kernel
theorem dX8_told_24 : decode cX8_told 24 = .ok (.iconst 0, 1) := by decide +kernel
theorem dX8_told_25 : decode cX8_told 25 = .ok (.ireturn, 1) := by decide +kernel
theorem dX8_accuseOn_0 : decode cX8_accuseOn 0 = .ok (.aload_n 0, 1) := by decide +kernel
theorem dX8_accuseOn_1 : decode cX8_accuseOn 1 = .ok (.aload_n 0, 1) := by decide +kernel
theorem dX8_accuseOn_2 : decode cX8_accuseOn 2 = .ok (.iconst 1, 1) := by decide +kernel
theorem dX8_accuseOn_3 : decode cX8_accuseOn 3 = .ok (.iaload, 1) := by decide +kernel
theorem dX8_accuseOn_4 : decode cX8_accuseOn 4 = .ok (.iconst 3, 1) := by decide +kernel
theorem dX8_accuseOn_5 : decode cX8_accuseOn 5 = .ok (.idiv, 1) := by decide +kernel
theorem dX8_accuseOn_6 : decode cX8_accuseOn 6 = .ok (.iconst 2, 1) := by decide +kernel
theorem dX8_accuseOn_7 : decode cX8_accuseOn 7 = .ok (.iload_n 1, 1) := by decide +kernel
theorem dX8_accuseOn_8 : decode cX8_accuseOn 8 = .ok (.imul, 1) := by decide +kernel
theorem dX8_accuseOn_9 : decode cX8_accuseOn 9 = .ok (.iload_n 2, 1) := by decide +kernel
theorem dX8_accuseOn_10 : decode cX8_accuseOn 10 = .ok (.ifCond .eq 7, 3) := by decide +kernel
theorem dX8_accuseOn_13 : decode cX8_accuseOn 13 = .ok (.iconst 1, 1) := by decide +kernel
theorem dX8_accuseOn_14 : decode cX8_accuseOn 14 = .ok (.goto 4, 3) := by decide +kernel
theorem dX8_accuseOn_17 : decode cX8_accuseOn 17 = .ok (.iconst 0, 1) := by decide +kernel
theorem dX8_accuseOn_18 : decode cX8_accuseOn 18 = .ok (.iadd, 1) := by decide +kernel
theorem dX8_accuseOn_19 : decode cX8_accuseOn 19 = .ok (.if_icmp .ne 7, 3) := by decide +kernel
theorem dX8_accuseOn_22 : decode cX8_accuseOn 22 = .ok (.iconst 1, 1) := by decide +kernel
theorem dX8_accuseOn_23 : decode cX8_accuseOn 23 = .ok (.goto 4, 3) := by decide +kernel
theorem dX8_accuseOn_26 : decode cX8_accuseOn 26 = .ok (.iconst 0, 1) := by decide +kernel
theorem dX8_accuseOn_27 : decode cX8_accuseOn 27 = .ok (.invokestatic 93, 3) := by decide +kernel
theorem dX8_accuseOn_30 : decode cX8_accuseOn 30 = .ok (.ireturn, 1) := by decide +kernel
theorem dX8_forgetOn_0 : decode cX8_forgetOn 0 = .ok (.aload_n 0, 1) := by decide +kernel
theorem dX8_forgetOn_1 : decode cX8_forgetOn 1 = .ok (.iconst 4, 1) := by decide +kernel
theorem dX8_forgetOn_2 : decode cX8_forgetOn 2 = .ok (.dup2, 1) := by decide +kernel
theorem dX8_forgetOn_3 : decode cX8_forgetOn 3 = .ok (.iaload, 1) := by decide +kernel
theorem dX8_forgetOn_4 : decode cX8_forgetOn 4 = .ok (.iconst 1, 1) := by decide +kernel
theorem dX8_forgetOn_5 : decode cX8_forgetOn 5 = .ok (.isub, 1) := by decide +kernel
theorem dX8_forgetOn_6 : decode cX8_forgetOn 6 = .ok (.iastore, 1) := by decide +kernel
theorem dX8_forgetOn_7 : decode cX8_forgetOn 7 = .ok (.aload_n 0, 1) := by decide +kernel
theorem dX8_forgetOn_8 : decode cX8_forgetOn 8 = .ok (.iconst 4, 1) := by decide +kernel
theorem dX8_forgetOn_9 : decode cX8_forgetOn 9 = .ok (.iaload, 1) := by decide +kernel
theorem dX8_forgetOn_10 : decode cX8_forgetOn 10 = .ok (.ireturn, 1) := by decide +kernel
theorem dX8_append_0 : decode cX8_append 0 = .ok (.aload_n 0, 1) := by decide +kernel
theorem dX8_append_1 : decode cX8_append 1 = .ok (.iload_n 1, 1) := by decide +kernel
theorem dX8_append_2 : decode cX8_append 2 = .ok (.i2l, 1) := by decide +kernel
theorem dX8_append_3 : decode cX8_append 3 = .ok (.lconst 0, 1) := by decide +kernel
theorem dX8_append_4 : decode cX8_append 4 = .ok (.ldc2_w 97, 3) := by decide +kernel
theorem dX8_append_7 : decode cX8_append 7 = .ok (.invokestatic 43, 3) := by decide +kernel
theorem dX8_append_10 : decode cX8_append 10 = .ok (.ifCond .ne 7, 3) := by decide +kernel
theorem dX8_append_13 : decode cX8_append 13 = .ok (.iconst 1, 1) := by decide +kernel
theorem dX8_append_14 : decode cX8_append 14 = .ok (.goto 17, 3) := by decide +kernel
theorem dX8_append_17 : decode cX8_append 17 = .ok (.aload_n 0, 1) := by decide +kernel
theorem dX8_append_18 : decode cX8_append 18 = .ok (.getfield 99, 3) := by decide +kernel
theorem dX8_append_21 : decode cX8_append 21 = .ok (.bipush 120, 2) := by decide +kernel
theorem dX8_append_23 : decode cX8_append 23 = .ok (.if_icmp .ne 7, 3) := by decide +kernel
theorem dX8_append_26 : decode cX8_append 26 = .ok (.iconst 2, 1) := by decide +kernel
theorem dX8_append_27 : decode cX8_append 27 = .ok (.goto 4, 3) := by decide +kernel
theorem dX8_append_30 : decode cX8_append 30 = .ok (.iconst 0, 1) := by decide +kernel
theorem dX8_append_31 : decode cX8_append 31 = .ok (.invokevirtual 102, 3) := by decide +kernel
theorem dX8_append_34 : decode cX8_append 34 = .ok (.ifCond .eq 5, 3) := by decide +kernel
theorem dX8_append_37 : decode cX8_append 37 = .ok (.iconst 0, 1) := by decide +kernel
theorem dX8_append_38 : decode cX8_append 38 = .ok (.ireturn, 1) := by decide +kernel
theorem dX8_append_39 : decode cX8_append 39 = .ok (.aload_n 0, 1) := by decide +kernel
theorem dX8_append_40 : decode cX8_append 40 = .ok (.getfield 7, 3) := by decide +kernel
theorem dX8_append_43 : decode cX8_append 43 = .ok (.aload_n 0, 1) := by decide +kernel
theorem dX8_append_44 : decode cX8_append 44 = .ok (.getfield 99, 3) := by decide +kernel
theorem dX8_append_47 : decode cX8_append 47 = .ok (.iload_n 1, 1) := by decide +kernel
theorem dX8_append_48 : decode cX8_append 48 = .ok (.iastore, 1) := by decide +kernel
theorem dX8_append_49 : decode cX8_append 49 = .ok (.aload_n 0, 1) := by decide +kernel
theorem dX8_append_50 : decode cX8_append 50 = .ok (.dup, 1) := by decide +kernel
theorem dX8_append_51 : decode cX8_append 51 = .ok (.getfield 99, 3) := by decide +kernel
theorem dX8_append_54 : decode cX8_append 54 = .ok (.iconst 1, 1) := by decide +kernel
theorem dX8_append_55 : decode cX8_append 55 = .ok (.iadd, 1) := by decide +kernel
theorem dX8_append_56 : decode cX8_append 56 = .ok (.putfield 99, 3) := by decide +kernel
theorem dX8_append_59 : decode cX8_append 59 = .ok (.aload_n 0, 1) := by decide +kernel
theorem dX8_append_60 : decode cX8_append 60 = .ok (.getfield 99, 3) := by decide +kernel
theorem dX8_append_63 : decode cX8_append 63 = .ok (.ireturn, 1) := by decide +kernel
theorem dX8_clearText_0 : decode cX8_clearText 0 = .ok (.aload_n 0, 1) := by decide +kernel
theorem dX8_clearText_1 : decode cX8_clearText 1 = .ok (.iconst 0, 1) := by decide +kernel
theorem dX8_clearText_2 : decode cX8_clearText 2 = .ok (.putfield 39, 3) := by decide +kernel
theorem dX8_clearText_5 : decode cX8_clearText 5 = .ok (.aload_n 0, 1) := by decide +kernel
theorem dX8_clearText_6 : decode cX8_clearText 6 = .ok (.getfield 99, 3) := by decide +kernel
theorem dX8_clearText_9 : decode cX8_clearText 9 = .ok (.istore_n 1, 1) := by decide +kernel
theorem dX8_clearText_10 : decode cX8_clearText 10 = .ok (.aload_n 0, 1) := by decide +kernel
theorem dX8_clearText_11 : decode cX8_clearText 11 = .ok (.iconst 0, 1) := by decide +kernel
theorem dX8_clearText_12 : decode cX8_clearText 12 = .ok (.putfield 99, 3) := by decide +kernel
theorem dX8_clearText_15 : decode cX8_clearText 15 = .ok (.iload_n 1, 1) := by decide +kernel
theorem dX8_clearText_16 : decode cX8_clearText 16 = .ok (.ireturn, 1) := by decide +kernel
theorem dX8_sign_0 : decode cX8_sign 0 = .ok (.aload_n 0, 1) := by decide +kernel
theorem dX8_sign_1 : decode cX8_sign 1 = .ok (.getfield 106, 3) := by decide +kernel
theorem dX8_sign_4 : decode cX8_sign 4 = .ok (.aload_n 0, 1) := by decide +kernel
theorem dX8_sign_5 : decode cX8_sign 5 = .ok (.getfield 99, 3) := by decide +kernel
theorem dX8_sign_8 : decode cX8_sign 8 = .ok (.if_icmp .ge 15, 3) := by decide +kernel
theorem dX8_sign_11 : decode cX8_sign 11 = .ok (.aload_n 0, 1) := by decide +kernel
theorem dX8_sign_12 : decode cX8_sign 12 = .ok (.getfield 7, 3) := by decide +kernel
theorem dX8_sign_15 : decode cX8_sign 15 = .ok (.aload_n 0, 1) := by decide +kernel
theorem dX8_sign_16 : decode cX8_sign 16 = .ok (.getfield 106, 3) := by decide +kernel
theorem dX8_sign_19 : decode cX8_sign 19 = .ok (.iaload, 1) := by decide +kernel
theorem dX8_sign_20 : decode cX8_sign 20 = .ok (.goto 4, 3) := by decide +kernel
theorem dX8_sign_23 : decode cX8_sign 23 = .ok (.iconst (-1), 1) := by decide +kernel
theorem dX8_sign_24 : decode cX8_sign 24 = .ok (.ireturn, 1) := by decide +kernel
theorem dX8_figures_0 : decode cX8_figures 0 = .ok (.iconst 0, 1) := by decide +kernel
theorem dX8_figures_1 : decode cX8_figures 1 = .ok (.istore 5, 2) := by decide +kernel
theorem dX8_figures_3 : decode cX8_figures 3 = .ok (.iload_n 2, 1) := by decide +kernel
theorem dX8_figures_4 : decode cX8_figures 4 = .ok (.iconst 2, 1) := by decide +kernel
theorem dX8_figures_5 : decode cX8_figures 5 = .ok (.if_icmp .ne 8, 3) := by decide +kernel
theorem dX8_figures_8 : decode cX8_figures 8 = .ok (.bipush 10, 2) := by decide +kernel
theorem dX8_figures_10 : decode cX8_figures 10 = .ok (.goto 4, 3) := by decide +kernel
theorem dX8_figures_13 : decode cX8_figures 13 = .ok (.iconst 1, 1) := by decide +kernel
theorem dX8_figures_14 : decode cX8_figures 14 = .ok (.istore 6, 2) := by decide +kernel
theorem dX8_figures_16 : decode cX8_figures 16 = .ok (.iload 6, 2) := by decide +kernel
theorem dX8_figures_18 : decode cX8_figures 18 = .ok (.ifCond .le 84, 3) := by decide +kernel
theorem dX8_figures_21 : decode cX8_figures 21 = .ok (.iload_n 1, 1) := by decide +kernel
theorem dX8_figures_22 : decode cX8_figures 22 = .ok (.iconst (-1), 1) := by decide +kernel
theorem dX8_figures_23 : decode cX8_figures 23 = .ok (.if_icmp .eq 79, 3) := by decide +kernel
theorem dX8_figures_26 : decode cX8_figures 26 = .ok (.aload_n 0, 1) := by decide +kernel
theorem dX8_figures_27 : decode cX8_figures 27 = .ok (.invokevirtual 109, 3) := by decide +kernel
theorem dX8_figures_30 : decode cX8_figures 30 = .ok (.bipush 48, 2) := by decide +kernel
theorem dX8_figures_32 : decode cX8_figures 32 = .ok (.isub, 1) := by decide +kernel
theorem dX8_figures_33 : decode cX8_figures 33 = .ok (.istore 7, 2) := by decide +kernel
theorem dX8_figures_35 : decode cX8_figures 35 = .ok (.iload 5, 2) := by decide +kernel
theorem dX8_figures_37 : decode cX8_figures 37 = .ok (.iload 7, 2) := by decide +kernel
theorem dX8_figures_39 : decode cX8_figures 39 = .ok (.iload 6, 2) := by decide +kernel
theorem dX8_figures_41 : decode cX8_figures 41 = .ok (.imul, 1) := by decide +kernel
theorem dX8_figures_42 : decode cX8_figures 42 = .ok (.iadd, 1) := by decide +kernel
theorem dX8_figures_43 : decode cX8_figures 43 = .ok (.istore 8, 2) := by decide +kernel
theorem dX8_figures_45 : decode cX8_figures 45 = .ok (.iload 7, 2) := by decide +kernel
theorem dX8_figures_47 : decode cX8_figures 47 = .ok (.i2l, 1) := by decide +kernel
theorem dX8_figures_48 : decode cX8_figures 48 = .ok (.lconst 0, 1) := by decide +kernel
theorem dX8_figures_49 : decode cX8_figures 49 = .ok (.ldc2_w 113, 3) := by decide +kernel
theorem dX8_figures_52 : decode cX8_figures 52 = .ok (.invokestatic 43, 3) := by decide +kernel
theorem dX8_figures_55 : decode cX8_figures 55 = .ok (.ifCond .eq 21, 3) := by decide +kernel
theorem dX8_figures_58 : decode cX8_figures 58 = .ok (.iload 8, 2) := by decide +kernel
theorem dX8_figures_60 : decode cX8_figures 60 = .ok (.iload 4, 2) := by decide +kernel
theorem dX8_figures_62 : decode cX8_figures 62 = .ok (.if_icmp .gt 14, 3) := by decide +kernel
theorem dX8_figures_65 : decode cX8_figures 65 = .ok (.iload 8, 2) := by decide +kernel
theorem dX8_figures_67 : decode cX8_figures 67 = .ok (.iload 6, 2) := by decide +kernel
theorem dX8_figures_69 : decode cX8_figures 69 = .ok (.iadd, 1) := by decide +kernel
theorem dX8_figures_70 : decode cX8_figures 70 = .ok (.iconst 1, 1) := by decide +kernel
theorem dX8_figures_71 : decode cX8_figures 71 = .ok (.isub, 1) := by decide +kernel
theorem dX8_figures_72 : decode cX8_figures 72 = .ok (.iload_n 3, 1) := by decide +kernel
theorem dX8_figures_73 : decode cX8_figures 73 = .ok (.if_icmp .ge 5, 3) := by decide +kernel
theorem dX8_figures_76 : decode cX8_figures 76 = .ok (.iconst (-1), 1) := by decide +kernel
theorem dX8_figures_77 : decode cX8_figures 77 = .ok (.ireturn, 1) := by decide +kernel
theorem dX8_figures_78 : decode cX8_figures 78 = .ok (.iload 8, 2) := by decide +kernel
theorem dX8_figures_80 : decode cX8_figures 80 = .ok (.istore 5, 2) := by decide +kernel
theorem dX8_figures_82 : decode cX8_figures 82 = .ok (.aload_n 0, 1) := by decide +kernel
theorem dX8_figures_83 : decode cX8_figures 83 = .ok (.dup, 1) := by decide +kernel
theorem dX8_figures_84 : decode cX8_figures 84 = .ok (.getfield 106, 3) := by decide +kernel
theorem dX8_figures_87 : decode cX8_figures 87 = .ok (.iconst 1, 1) := by decide +kernel
theorem dX8_figures_88 : decode cX8_figures 88 = .ok (.iadd, 1) := by decide +kernel
theorem dX8_figures_89 : decode cX8_figures 89 = .ok (.putfield 106, 3) := by decide +kernel
theorem dX8_figures_92 : decode cX8_figures 92 = .ok (.iload 6, 2) := by decide +kernel
theorem dX8_figures_94 : decode cX8_figures 94 = .ok (.bipush 10, 2) := by decide +kernel
theorem dX8_figures_96 : decode cX8_figures 96 = .ok (.idiv, 1) := by decide +kernel
theorem dX8_figures_97 : decode cX8_figures 97 = .ok (.istore 6, 2) := by decide +kernel
theorem dX8_figures_99 : decode cX8_figures 99 = .ok (.goto (-83), 3) := by decide +kernel
theorem dX8_figures_102 : decode cX8_figures 102 = .ok (.iload_n 1, 1) := by decide +kernel
theorem dX8_figures_103 : decode cX8_figures 103 = .ok (.iconst (-1), 1) := by decide +kernel
theorem dX8_figures_104 : decode cX8_figures 104 = .ok (.if_icmp .ne 7, 3) := by decide +kernel
theorem dX8_figures_107 : decode cX8_figures 107 = .ok (.iconst (-1), 1) := by decide +kernel
theorem dX8_figures_108 : decode cX8_figures 108 = .ok (.goto 5, 3) := by decide +kernel
theorem dX8_figures_111 : decode cX8_figures 111 = .ok (.iload 5, 2) := by decide +kernel
theorem dX8_figures_113 : decode cX8_figures 113 = .ok (.ireturn, 1) := by decide +kernel
theorem dX8_letters_0 : decode cX8_letters 0 = .ok (.iconst 0, 1) := by decide +kernel
theorem dX8_letters_1 : decode cX8_letters 1 = .ok (.istore_n 2, 1) := by decide +kernel
theorem dX8_letters_2 : decode cX8_letters 2 = .ok (.bipush 97, 2) := by decide +kernel
theorem dX8_letters_4 : decode cX8_letters 4 = .ok (.istore_n 3, 1) := by decide +kernel
theorem dX8_letters_5 : decode cX8_letters 5 = .ok (.aload_n 0, 1) := by decide +kernel
theorem dX8_letters_6 : decode cX8_letters 6 = .ok (.invokevirtual 109, 3) := by decide +kernel
theorem dX8_letters_9 : decode cX8_letters 9 = .ok (.i2l, 1) := by decide +kernel
theorem dX8_letters_10 : decode cX8_letters 10 = .ok (.iload_n 3, 1) := by decide +kernel
theorem dX8_letters_11 : decode cX8_letters 11 = .ok (.i2l, 1) := by decide +kernel
theorem dX8_letters_12 : decode cX8_letters 12 = .ok (.ldc2_w 115, 3) := by decide +kernel
theorem dX8_letters_15 : decode cX8_letters 15 = .ok (.invokestatic 43, 3) := by decide +kernel
theorem dX8_letters_18 : decode cX8_letters 18 = .ok (.ifCond .eq 35, 3) := by decide +kernel
theorem dX8_letters_21 : decode cX8_letters 21 = .ok (.iload_n 2, 1) := by decide +kernel
theorem dX8_letters_22 : decode cX8_letters 22 = .ok (.iconst 1, 1) := by decide +kernel
theorem dX8_letters_23 : decode cX8_letters 23 = .ok (.aload_n 0, 1) := by decide +kernel
theorem dX8_letters_24 : decode cX8_letters 24 = .ok (.invokevirtual 109, 3) := by decide +kernel
theorem dX8_letters_27 : decode cX8_letters 27 = .ok (.bipush 97, 2) := by decide +kernel
theorem dX8_letters_29 : decode cX8_letters 29 = .ok (.isub, 1) := by decide +kernel
theorem dX8_letters_30 : decode cX8_letters 30 = .ok (.ishl, 1) := by decide +kernel
theorem dX8_letters_31 : decode cX8_letters 31 = .ok (.ior, 1) := by decide +kernel
theorem dX8_letters_32 : decode cX8_letters 32 = .ok (.istore_n 2, 1) := by decide +kernel
theorem dX8_letters_33 : decode cX8_letters 33 = .ok (.aload_n 0, 1) := by decide +kernel
theorem dX8_letters_34 : decode cX8_letters 34 = .ok (.invokevirtual 109, 3) := by decide +kernel
theorem dX8_letters_37 : decode cX8_letters 37 = .ok (.iconst 1, 1) := by decide +kernel
theorem dX8_letters_38 : decode cX8_letters 38 = .ok (.iadd, 1) := by decide +kernel
theorem dX8_letters_39 : decode cX8_letters 39 = .ok (.istore_n 3, 1) := by decide +kernel
theorem dX8_letters_40 : decode cX8_letters 40 = .ok (.aload_n 0, 1) := by decide +kernel
theorem dX8_letters_41 : decode cX8_letters 41 = .ok (.dup, 1) := by decide +kernel
theorem dX8_letters_42 : decode cX8_letters 42 = .ok (.getfield 106, 3) := by decide +kernel
theorem dX8_letters_45 : decode cX8_letters 45 = .ok (.iconst 1, 1) := by decide +kernel
theorem dX8_letters_46 : decode cX8_letters 46 = .ok (.iadd, 1) := by decide +kernel
theorem dX8_letters_47 : decode cX8_letters 47 = .ok (.putfield 106, 3) := by decide +kernel
theorem dX8_letters_50 : decode cX8_letters 50 = .ok (.goto (-45), 3) := by decide +kernel
theorem dX8_letters_53 : decode cX8_letters 53 = .ok (.aload_n 0, 1) := by decide +kernel
theorem dX8_letters_54 : decode cX8_letters 54 = .ok (.invokevirtual 109, 3) := by decide +kernel
theorem dX8_letters_57 : decode cX8_letters 57 = .ok (.iload_n 1, 1) := by decide +kernel
theorem dX8_letters_58 : decode cX8_letters 58 = .ok (.if_icmp .eq 5, 3) := by decide +kernel
theorem dX8_letters_61 : decode cX8_letters 61 = .ok (.iconst (-1), 1) := by decide +kernel
theorem dX8_letters_62 : decode cX8_letters 62 = .ok (.ireturn, 1) := by decide +kernel
theorem dX8_letters_63 : decode cX8_letters 63 = .ok (.aload_n 0, 1) := by decide +kernel
theorem dX8_letters_64 : decode cX8_letters 64 = .ok (.dup, 1) := by decide +kernel
theorem dX8_letters_65 : decode cX8_letters 65 = .ok (.getfield 106, 3) := by decide +kernel
theorem dX8_letters_68 : decode cX8_letters 68 = .ok (.iconst 1, 1) := by decide +kernel
theorem dX8_letters_69 : decode cX8_letters 69 = .ok (.iadd, 1) := by decide +kernel
theorem dX8_letters_70 : decode cX8_letters 70 = .ok (.putfield 106, 3) := by decide +kernel
theorem dX8_letters_73 : decode cX8_letters 73 = .ok (.iload_n 2, 1) := by decide +kernel
theorem dX8_letters_74 : decode cX8_letters 74 = .ok (.ireturn, 1) := by decide +kernel
theorem dX8_done_0 : decode cX8_done 0 = .ok (.aload_n 0, 1) := by decide +kernel
theorem dX8_done_1 : decode cX8_done 1 = .ok (.dup, 1) := by decide +kernel
theorem dX8_done_2 : decode cX8_done 2 = .ok (.getfield 117, 3) := by decide +kernel
theorem dX8_done_5 : decode cX8_done 5 = .ok (.iload_n 1, 1) := by decide +kernel
theorem dX8_done_6 : decode cX8_done 6 = .ok (.ifCond .eq 7, 3) := by decide +kernel
theorem dX8_done_9 : decode cX8_done 9 = .ok (.iconst 0, 1) := by decide +kernel
theorem dX8_done_10 : decode cX8_done 10 = .ok (.goto 4, 3) := by decide +kernel
theorem dX8_done_13 : decode cX8_done 13 = .ok (.iconst 1, 1) := by decide +kernel
theorem dX8_done_14 : decode cX8_done 14 = .ok (.iadd, 1) := by decide +kernel
theorem dX8_done_15 : decode cX8_done 15 = .ok (.putfield 117, 3) := by decide +kernel
theorem dX8_done_18 : decode cX8_done 18 = .ok (.iconst 1, 1) := by decide +kernel
theorem dX8_done_19 : decode cX8_done 19 = .ok (.ireturn, 1) := by decide +kernel
theorem dX8_readCommand_0 : decode cX8_readCommand 0 = .ok (.aload_n 0, 1) := by decide +kernel
theorem dX8_readCommand_1 : decode cX8_readCommand 1 = .ok (.invokevirtual 109, 3) := by decide +kernel
theorem dX8_readCommand_4 : decode cX8_readCommand 4 = .ok (.lookupswitch 164 #[(97, 102), (119, 28)], 28) := by decide +kernel
theorem dX8_readCommand_32 : decode cX8_readCommand 32 = .ok (.aload_n 0, 1) := by decide +kernel
theorem dX8_readCommand_33 : decode cX8_readCommand 33 = .ok (.dup, 1) := by decide +kernel
theorem dX8_readCommand_34 : decode cX8_readCommand 34 = .ok (.getfield 106, 3) := by decide +kernel
theorem dX8_readCommand_37 : decode cX8_readCommand 37 = .ok (.iconst 1, 1) := by decide +kernel
theorem dX8_readCommand_38 : decode cX8_readCommand 38 = .ok (.iadd, 1) := by decide +kernel
theorem dX8_readCommand_39 : decode cX8_readCommand 39 = .ok (.putfield 106, 3) := by decide +kernel
theorem dX8_readCommand_42 : decode cX8_readCommand 42 = .ok (.aload_n 0, 1) := by decide +kernel
theorem dX8_readCommand_43 : decode cX8_readCommand 43 = .ok (.bipush 118, 2) := by decide +kernel
theorem dX8_readCommand_45 : decode cX8_readCommand 45 = .ok (.invokevirtual 120, 3) := by decide +kernel
theorem dX8_readCommand_48 : decode cX8_readCommand 48 = .ok (.istore_n 2, 1) := by decide +kernel
theorem dX8_readCommand_49 : decode cX8_readCommand 49 = .ok (.iload_n 2, 1) := by decide +kernel
theorem dX8_readCommand_50 : decode cX8_readCommand 50 = .ok (.iconst (-1), 1) := by decide +kernel
theorem dX8_readCommand_51 : decode cX8_readCommand 51 = .ok (.if_icmp .ne 7, 3) := by decide +kernel
theorem dX8_readCommand_54 : decode cX8_readCommand 54 = .ok (.iconst (-1), 1) := by decide +kernel
theorem dX8_readCommand_55 : decode cX8_readCommand 55 = .ok (.goto 9, 3) := by decide +kernel
theorem dX8_readCommand_58 : decode cX8_readCommand 58 = .ok (.aload_n 0, 1) := by decide +kernel
theorem dX8_readCommand_59 : decode cX8_readCommand 59 = .ok (.bipush 46, 2) := by decide +kernel
theorem dX8_readCommand_61 : decode cX8_readCommand 61 = .ok (.invokevirtual 120, 3) := by decide +kernel
theorem dX8_readCommand_64 : decode cX8_readCommand 64 = .ok (.istore_n 3, 1) := by decide +kernel
theorem dX8_readCommand_65 : decode cX8_readCommand 65 = .ok (.iload_n 3, 1) := by decide +kernel
theorem dX8_readCommand_66 : decode cX8_readCommand 66 = .ok (.iconst (-1), 1) := by decide +kernel
theorem dX8_readCommand_67 : decode cX8_readCommand 67 = .ok (.if_icmp .eq 37, 3) := by decide +kernel
theorem dX8_readCommand_70 : decode cX8_readCommand 70 = .ok (.aload_n 0, 1) := by decide +kernel
theorem dX8_readCommand_71 : decode cX8_readCommand 71 = .ok (.aload_n 1, 1) := by decide +kernel
theorem dX8_readCommand_72 : decode cX8_readCommand 72 = .ok (.iload_n 2, 1) := by decide +kernel
theorem dX8_readCommand_73 : decode cX8_readCommand 73 = .ok (.iload_n 3, 1) := by decide +kernel
theorem dX8_readCommand_74 : decode cX8_readCommand 74 = .ok (.invokestatic 123, 3) := by decide +kernel
theorem dX8_readCommand_77 : decode cX8_readCommand 77 = .ok (.ifCond .eq 16, 3) := by decide +kernel
theorem dX8_readCommand_80 : decode cX8_readCommand 80 = .ok (.aload_n 1, 1) := by decide +kernel
theorem dX8_readCommand_81 : decode cX8_readCommand 81 = .ok (.iload_n 2, 1) := by decide +kernel
theorem dX8_readCommand_82 : decode cX8_readCommand 82 = .ok (.iload_n 3, 1) := by decide +kernel
theorem dX8_readCommand_83 : decode cX8_readCommand 83 = .ok (.invokestatic 126, 3) := by decide +kernel
theorem dX8_readCommand_86 : decode cX8_readCommand 86 = .ok (.ifCond .lt 7, 3) := by decide +kernel
theorem dX8_readCommand_89 : decode cX8_readCommand 89 = .ok (.iconst 1, 1) := by decide +kernel
theorem dX8_readCommand_90 : decode cX8_readCommand 90 = .ok (.goto 4, 3) := by decide +kernel
theorem dX8_readCommand_93 : decode cX8_readCommand 93 = .ok (.iconst 0, 1) := by decide +kernel
theorem dX8_readCommand_94 : decode cX8_readCommand 94 = .ok (.invokevirtual 130, 3) := by decide +kernel
theorem dX8_readCommand_97 : decode cX8_readCommand 97 = .ok (.ifCond .eq 7, 3) := by decide +kernel
theorem dX8_readCommand_100 : decode cX8_readCommand 100 = .ok (.iconst 1, 1) := by decide +kernel
theorem dX8_readCommand_101 : decode cX8_readCommand 101 = .ok (.goto 4, 3) := by decide +kernel
theorem dX8_readCommand_104 : decode cX8_readCommand 104 = .ok (.iconst 0, 1) := by decide +kernel
theorem dX8_readCommand_105 : decode cX8_readCommand 105 = .ok (.ireturn, 1) := by decide +kernel
theorem dX8_readCommand_106 : decode cX8_readCommand 106 = .ok (.aload_n 0, 1) := by decide +kernel
theorem dX8_readCommand_107 : decode cX8_readCommand 107 = .ok (.dup, 1) := by decide +kernel
theorem dX8_readCommand_108 : decode cX8_readCommand 108 = .ok (.getfield 106, 3) := by decide +kernel
theorem dX8_readCommand_111 : decode cX8_readCommand 111 = .ok (.iconst 1, 1) := by decide +kernel
theorem dX8_readCommand_112 : decode cX8_readCommand 112 = .ok (.iadd, 1) := by decide +kernel
theorem dX8_readCommand_113 : decode cX8_readCommand 113 = .ok (.putfield 106, 3) := by decide +kernel
theorem dX8_readCommand_116 : decode cX8_readCommand 116 = .ok (.aload_n 0, 1) := by decide +kernel
theorem dX8_readCommand_117 : decode cX8_readCommand 117 = .ok (.iconst 0, 1) := by decide +kernel
theorem dX8_readCommand_118 : decode cX8_readCommand 118 = .ok (.iconst 2, 1) := by decide +kernel
theorem dX8_readCommand_119 : decode cX8_readCommand 119 = .ok (.iconst 1, 1) := by decide +kernel
theorem dX8_readCommand_120 : decode cX8_readCommand 120 = .ok (.bipush 20, 2) := by decide +kernel
theorem dX8_readCommand_122 : decode cX8_readCommand 122 = .ok (.invokevirtual 134, 3) := by decide +kernel
theorem dX8_readCommand_125 : decode cX8_readCommand 125 = .ok (.istore_n 2, 1) := by decide +kernel
theorem dX8_readCommand_126 : decode cX8_readCommand 126 = .ok (.aload_n 0, 1) := by decide +kernel
theorem dX8_readCommand_127 : decode cX8_readCommand 127 = .ok (.iload_n 2, 1) := by decide +kernel
theorem dX8_readCommand_128 : decode cX8_readCommand 128 = .ok (.iconst 2, 1) := by decide +kernel
theorem dX8_readCommand_129 : decode cX8_readCommand 129 = .ok (.iconst 1, 1) := by decide +kernel
theorem dX8_readCommand_130 : decode cX8_readCommand 130 = .ok (.bipush 20, 2) := by decide +kernel
theorem dX8_readCommand_132 : decode cX8_readCommand 132 = .ok (.invokevirtual 134, 3) := by decide +kernel
theorem dX8_readCommand_135 : decode cX8_readCommand 135 = .ok (.istore_n 3, 1) := by decide +kernel
theorem dX8_readCommand_136 : decode cX8_readCommand 136 = .ok (.iload_n 3, 1) := by decide +kernel
theorem dX8_readCommand_137 : decode cX8_readCommand 137 = .ok (.iconst (-1), 1) := by decide +kernel
theorem dX8_readCommand_138 : decode cX8_readCommand 138 = .ok (.if_icmp .eq 28, 3) := by decide +kernel
theorem dX8_readCommand_141 : decode cX8_readCommand 141 = .ok (.aload_n 0, 1) := by decide +kernel
theorem dX8_readCommand_142 : decode cX8_readCommand 142 = .ok (.aload_n 1, 1) := by decide +kernel
theorem dX8_readCommand_143 : decode cX8_readCommand 143 = .ok (.iload_n 2, 1) := by decide +kernel
theorem dX8_readCommand_144 : decode cX8_readCommand 144 = .ok (.iload_n 3, 1) := by decide +kernel
theorem dX8_readCommand_145 : decode cX8_readCommand 145 = .ok (.invokestatic 138, 3) := by decide +kernel
theorem dX8_readCommand_148 : decode cX8_readCommand 148 = .ok (.ifCond .lt 7, 3) := by decide +kernel
theorem dX8_readCommand_151 : decode cX8_readCommand 151 = .ok (.iconst 1, 1) := by decide +kernel
theorem dX8_readCommand_152 : decode cX8_readCommand 152 = .ok (.goto 4, 3) := by decide +kernel
theorem dX8_readCommand_155 : decode cX8_readCommand 155 = .ok (.iconst 0, 1) := by decide +kernel
theorem dX8_readCommand_156 : decode cX8_readCommand 156 = .ok (.invokevirtual 130, 3) := by decide +kernel
theorem dX8_readCommand_159 : decode cX8_readCommand 159 = .ok (.ifCond .eq 7, 3) := by decide +kernel
theorem dX8_readCommand_162 : decode cX8_readCommand 162 = .ok (.iconst 1, 1) := by decide +kernel
theorem dX8_readCommand_163 : decode cX8_readCommand 163 = .ok (.goto 4, 3) := by decide +kernel
theorem dX8_readCommand_166 : decode cX8_readCommand 166 = .ok (.iconst 0, 1) := by decide +kernel
theorem dX8_readCommand_167 : decode cX8_readCommand 167 = .ok (.ireturn, 1) := by decide +kernel
theorem dX8_readCommand_168 : decode cX8_readCommand 168 = .ok (.iconst 0, 1) := by decide +kernel
theorem dX8_readCommand_169 : decode cX8_readCommand 169 = .ok (.ireturn, 1) := by decide +kernel
theorem dX8_readCase_0 : decode cX8_readCase 0 = .ok (.aload_n 0, 1) := by decide +kernel
theorem dX8_readCase_1 : decode cX8_readCase 1 = .ok (.iconst 0, 1) := by decide +kernel
theorem dX8_readCase_2 : decode cX8_readCase 2 = .ok (.iconst 2, 1) := by decide +kernel
theorem dX8_readCase_3 : decode cX8_readCase 3 = .ok (.iconst 3, 1) := by decide +kernel
theorem dX8_readCase_4 : decode cX8_readCase 4 = .ok (.bipush 12, 2) := by decide +kernel
theorem dX8_readCase_6 : decode cX8_readCase 6 = .ok (.invokevirtual 134, 3) := by decide +kernel
theorem dX8_readCase_9 : decode cX8_readCase 9 = .ok (.istore_n 2, 1) := by decide +kernel
theorem dX8_readCase_10 : decode cX8_readCase 10 = .ok (.aload_n 0, 1) := by decide +kernel
theorem dX8_readCase_11 : decode cX8_readCase 11 = .ok (.iload_n 2, 1) := by decide +kernel
theorem dX8_readCase_12 : decode cX8_readCase 12 = .ok (.iconst 2, 1) := by decide +kernel
theorem dX8_readCase_13 : decode cX8_readCase 13 = .ok (.iconst 0, 1) := by decide +kernel
theorem dX8_readCase_14 : decode cX8_readCase 14 = .ok (.bipush 11, 2) := by decide +kernel
theorem dX8_readCase_16 : decode cX8_readCase 16 = .ok (.invokevirtual 134, 3) := by decide +kernel
theorem dX8_readCase_19 : decode cX8_readCase 19 = .ok (.istore_n 3, 1) := by decide +kernel
theorem dX8_readCase_20 : decode cX8_readCase 20 = .ok (.iload_n 3, 1) := by decide +kernel
theorem dX8_readCase_21 : decode cX8_readCase 21 = .ok (.iconst (-1), 1) := by decide +kernel
theorem dX8_readCase_22 : decode cX8_readCase 22 = .ok (.if_icmp .ne 7, 3) := by decide +kernel
theorem dX8_readCase_25 : decode cX8_readCase 25 = .ok (.iconst (-1), 1) := by decide +kernel
theorem dX8_readCase_26 : decode cX8_readCase 26 = .ok (.goto 43, 3) := by decide +kernel
theorem dX8_readCase_29 : decode cX8_readCase 29 = .ok (.aload_n 0, 1) := by decide +kernel
theorem dX8_readCase_30 : decode cX8_readCase 30 = .ok (.invokevirtual 109, 3) := by decide +kernel
theorem dX8_readCase_33 : decode cX8_readCase 33 = .ok (.bipush 108, 2) := by decide +kernel
theorem dX8_readCase_35 : decode cX8_readCase 35 = .ok (.if_icmp .ne 7, 3) := by decide +kernel
theorem dX8_readCase_38 : decode cX8_readCase 38 = .ok (.iconst 0, 1) := by decide +kernel
theorem dX8_readCase_39 : decode cX8_readCase 39 = .ok (.goto 30, 3) := by decide +kernel
theorem dX8_readCase_42 : decode cX8_readCase 42 = .ok (.aload_n 0, 1) := by decide +kernel
theorem dX8_readCase_43 : decode cX8_readCase 43 = .ok (.invokevirtual 109, 3) := by decide +kernel
theorem dX8_readCase_46 : decode cX8_readCase 46 = .ok (.bipush 104, 2) := by decide +kernel
theorem dX8_readCase_48 : decode cX8_readCase 48 = .ok (.if_icmp .ne 7, 3) := by decide +kernel
theorem dX8_readCase_51 : decode cX8_readCase 51 = .ok (.iconst 1, 1) := by decide +kernel
theorem dX8_readCase_52 : decode cX8_readCase 52 = .ok (.goto 17, 3) := by decide +kernel
theorem dX8_readCase_55 : decode cX8_readCase 55 = .ok (.aload_n 0, 1) := by decide +kernel
theorem dX8_readCase_56 : decode cX8_readCase 56 = .ok (.invokevirtual 109, 3) := by decide +kernel
theorem dX8_readCase_59 : decode cX8_readCase 59 = .ok (.bipush 116, 2) := by decide +kernel
theorem dX8_readCase_61 : decode cX8_readCase 61 = .ok (.if_icmp .ne 7, 3) := by decide +kernel
theorem dX8_readCase_64 : decode cX8_readCase 64 = .ok (.iconst 2, 1) := by decide +kernel
theorem dX8_readCase_65 : decode cX8_readCase 65 = .ok (.goto 4, 3) := by decide +kernel
theorem dX8_readCase_68 : decode cX8_readCase 68 = .ok (.iconst (-1), 1) := by decide +kernel
theorem dX8_readCase_69 : decode cX8_readCase 69 = .ok (.istore 4, 2) := by decide +kernel
theorem dX8_readCase_71 : decode cX8_readCase 71 = .ok (.aload_n 0, 1) := by decide +kernel
theorem dX8_readCase_72 : decode cX8_readCase 72 = .ok (.dup, 1) := by decide +kernel
theorem dX8_readCase_73 : decode cX8_readCase 73 = .ok (.getfield 106, 3) := by decide +kernel
theorem dX8_readCase_76 : decode cX8_readCase 76 = .ok (.iload 4, 2) := by decide +kernel
theorem dX8_readCase_78 : decode cX8_readCase 78 = .ok (.iconst (-1), 1) := by decide +kernel
theorem dX8_readCase_79 : decode cX8_readCase 79 = .ok (.if_icmp .ne 7, 3) := by decide +kernel
theorem dX8_readCase_82 : decode cX8_readCase 82 = .ok (.iconst 0, 1) := by decide +kernel
theorem dX8_readCase_83 : decode cX8_readCase 83 = .ok (.goto 4, 3) := by decide +kernel
theorem dX8_readCase_86 : decode cX8_readCase 86 = .ok (.iconst 1, 1) := by decide +kernel
theorem dX8_readCase_87 : decode cX8_readCase 87 = .ok (.iadd, 1) := by decide +kernel
theorem dX8_readCase_88 : decode cX8_readCase 88 = .ok (.putfield 106, 3) := by decide +kernel
theorem dX8_readCase_91 : decode cX8_readCase 91 = .ok (.aload_n 0, 1) := by decide +kernel
theorem dX8_readCase_92 : decode cX8_readCase 92 = .ok (.iload 4, 2) := by decide +kernel
theorem dX8_readCase_94 : decode cX8_readCase 94 = .ok (.iconst 1, 1) := by decide +kernel
theorem dX8_readCase_95 : decode cX8_readCase 95 = .ok (.iconst 0, 1) := by decide +kernel
theorem dX8_readCase_96 : decode cX8_readCase 96 = .ok (.iconst 2, 1) := by decide +kernel
theorem dX8_readCase_97 : decode cX8_readCase 97 = .ok (.invokevirtual 134, 3) := by decide +kernel
theorem dX8_readCase_100 : decode cX8_readCase 100 = .ok (.istore 5, 2) := by decide +kernel
theorem dX8_readCase_102 : decode cX8_readCase 102 = .ok (.iload 5, 2) := by decide +kernel
theorem dX8_readCase_104 : decode cX8_readCase 104 = .ok (.iconst (-1), 1) := by decide +kernel
theorem dX8_readCase_105 : decode cX8_readCase 105 = .ok (.if_icmp .ne 5, 3) := by decide +kernel
theorem dX8_readCase_108 : decode cX8_readCase 108 = .ok (.iconst 0, 1) := by decide +kernel
theorem dX8_readCase_109 : decode cX8_readCase 109 = .ok (.ireturn, 1) := by decide +kernel
theorem dX8_readCase_110 : decode cX8_readCase 110 = .ok (.aload_n 1, 1) := by decide +kernel
theorem dX8_readCase_111 : decode cX8_readCase 111 = .ok (.iload_n 2, 1) := by decide +kernel
theorem dX8_readCase_112 : decode cX8_readCase 112 = .ok (.iconst 3, 1) := by decide +kernel
theorem dX8_readCase_113 : decode cX8_readCase 113 = .ok (.iload 4, 2) := by decide +kernel
theorem dX8_readCase_115 : decode cX8_readCase 115 = .ok (.iconst 2, 1) := by decide +kernel
theorem dX8_readCase_116 : decode cX8_readCase 116 = .ok (.if_icmp .eq 8, 3) := by decide +kernel
theorem dX8_readCase_119 : decode cX8_readCase 119 = .ok (.iload_n 3, 1) := by decide +kernel
theorem dX8_readCase_120 : decode cX8_readCase 120 = .ok (.iload_n 2, 1) := by decide +kernel
theorem dX8_readCase_121 : decode cX8_readCase 121 = .ok (.if_icmp .lt 9, 3) := by decide +kernel
theorem dX8_readCase_124 : decode cX8_readCase 124 = .ok (.iconst 2, 1) := by decide +kernel
theorem dX8_readCase_125 : decode cX8_readCase 125 = .ok (.iload_n 2, 1) := by decide +kernel
theorem dX8_readCase_126 : decode cX8_readCase 126 = .ok (.imul, 1) := by decide +kernel
theorem dX8_readCase_127 : decode cX8_readCase 127 = .ok (.goto 9, 3) := by decide +kernel
theorem dX8_readCase_130 : decode cX8_readCase 130 = .ok (.iconst 2, 1) := by decide +kernel
theorem dX8_readCase_131 : decode cX8_readCase 131 = .ok (.iload_n 3, 1) := by decide +kernel
theorem dX8_readCase_132 : decode cX8_readCase 132 = .ok (.imul, 1) := by decide +kernel
theorem dX8_readCase_133 : decode cX8_readCase 133 = .ok (.iload 4, 2) := by decide +kernel
theorem dX8_readCase_135 : decode cX8_readCase 135 = .ok (.iadd, 1) := by decide +kernel
theorem dX8_readCase_136 : decode cX8_readCase 136 = .ok (.imul, 1) := by decide +kernel
theorem dX8_readCase_137 : decode cX8_readCase 137 = .ok (.iload 5, 2) := by decide +kernel
theorem dX8_readCase_139 : decode cX8_readCase 139 = .ok (.iadd, 1) := by decide +kernel
theorem dX8_readCase_140 : decode cX8_readCase 140 = .ok (.invokestatic 141, 3) := by decide +kernel
theorem dX8_readCase_143 : decode cX8_readCase 143 = .ok (.pop, 1) := by decide +kernel
theorem dX8_readCase_144 : decode cX8_readCase 144 = .ok (.iconst 1, 1) := by decide +kernel
theorem dX8_readCase_145 : decode cX8_readCase 145 = .ok (.ireturn, 1) := by decide +kernel
theorem dX8_readText_0 : decode cX8_readText 0 = .ok (.aload_n 1, 1) := by decide +kernel
theorem dX8_readText_1 : decode cX8_readText 1 = .ok (.invokestatic 35, 3) := by decide +kernel
theorem dX8_readText_4 : decode cX8_readText 4 = .ok (.aload_n 0, 1) := by decide +kernel
theorem dX8_readText_5 : decode cX8_readText 5 = .ok (.iconst 0, 1) := by decide +kernel
theorem dX8_readText_6 : decode cX8_readText 6 = .ok (.putfield 117, 3) := by decide +kernel
theorem dX8_readText_9 : decode cX8_readText 9 = .ok (.aload_n 0, 1) := by decide +kernel
theorem dX8_readText_10 : decode cX8_readText 10 = .ok (.iconst 0, 1) := by decide +kernel
theorem dX8_readText_11 : decode cX8_readText 11 = .ok (.putfield 106, 3) := by decide +kernel
theorem dX8_readText_14 : decode cX8_readText 14 = .ok (.aload_n 0, 1) := by decide +kernel
theorem dX8_readText_15 : decode cX8_readText 15 = .ok (.invokevirtual 109, 3) := by decide +kernel
theorem dX8_readText_18 : decode cX8_readText 18 = .ok (.bipush 80, 2) := by decide +kernel
theorem dX8_readText_20 : decode cX8_readText 20 = .ok (.if_icmp .eq 5, 3) := by decide +kernel
theorem dX8_readText_23 : decode cX8_readText 23 = .ok (.iconst 0, 1) := by decide +kernel
theorem dX8_readText_24 : decode cX8_readText 24 = .ok (.ireturn, 1) := by decide +kernel
theorem dX8_readText_25 : decode cX8_readText 25 = .ok (.aload_n 0, 1) := by decide +kernel
theorem dX8_readText_26 : decode cX8_readText 26 = .ok (.iconst 1, 1) := by decide +kernel
theorem dX8_readText_27 : decode cX8_readText 27 = .ok (.putfield 106, 3) := by decide +kernel
theorem dX8_readText_30 : decode cX8_readText 30 = .ok (.aload_n 0, 1) := by decide +kernel
theorem dX8_readText_31 : decode cX8_readText 31 = .ok (.aload_n 1, 1) := by decide +kernel
theorem dX8_readText_32 : decode cX8_readText 32 = .ok (.invokevirtual 144, 3) := by decide +kernel
theorem dX8_readText_35 : decode cX8_readText 35 = .ok (.ifCond .ne 8, 3) := by decide +kernel
theorem dX8_readText_38 : decode cX8_readText 38 = .ok (.aload_n 0, 1) := by decide +kernel
theorem dX8_readText_39 : decode cX8_readText 39 = .ok (.getfield 106, 3) := by decide +kernel
theorem dX8_readText_42 : decode cX8_readText 42 = .ok (.ireturn, 1) := by decide +kernel
theorem dX8_readText_43 : decode cX8_readText 43 = .ok (.aload_n 0, 1) := by decide +kernel
theorem dX8_readText_44 : decode cX8_readText 44 = .ok (.getfield 106, 3) := by decide +kernel
theorem dX8_readText_47 : decode cX8_readText 47 = .ok (.aload_n 0, 1) := by decide +kernel
theorem dX8_readText_48 : decode cX8_readText 48 = .ok (.getfield 99, 3) := by decide +kernel
theorem dX8_readText_51 : decode cX8_readText 51 = .ok (.if_icmp .ge 16, 3) := by decide +kernel
theorem dX8_readText_54 : decode cX8_readText 54 = .ok (.aload_n 0, 1) := by decide +kernel
theorem dX8_readText_55 : decode cX8_readText 55 = .ok (.aload_n 1, 1) := by decide +kernel
theorem dX8_readText_56 : decode cX8_readText 56 = .ok (.invokevirtual 148, 3) := by decide +kernel
theorem dX8_readText_59 : decode cX8_readText 59 = .ok (.ifCond .ne (-16), 3) := by decide +kernel
theorem dX8_readText_62 : decode cX8_readText 62 = .ok (.aload_n 0, 1) := by decide +kernel
theorem dX8_readText_63 : decode cX8_readText 63 = .ok (.getfield 106, 3) := by decide +kernel
theorem dX8_readText_66 : decode cX8_readText 66 = .ok (.ireturn, 1) := by decide +kernel
theorem dX8_readText_67 : decode cX8_readText 67 = .ok (.iconst (-1), 1) := by decide +kernel
theorem dX8_readText_68 : decode cX8_readText 68 = .ok (.ireturn, 1) := by decide +kernel
theorem dX8_errorPosition_0 : decode cX8_errorPosition 0 = .ok (.aload_n 0, 1) := by decide +kernel
theorem dX8_errorPosition_1 : decode cX8_errorPosition 1 = .ok (.iconst 0, 1) := by decide +kernel
theorem dX8_errorPosition_2 : decode cX8_errorPosition 2 = .ok (.putfield 39, 3) := by decide +kernel
theorem dX8_errorPosition_5 : decode cX8_errorPosition 5 = .ok (.aload_n 0, 1) := by decide +kernel
theorem dX8_errorPosition_6 : decode cX8_errorPosition 6 = .ok (.aload_n 0, 1) := by decide +kernel
theorem dX8_errorPosition_7 : decode cX8_errorPosition 7 = .ok (.getfield 16, 3) := by decide +kernel
theorem dX8_errorPosition_10 : decode cX8_errorPosition 10 = .ok (.invokevirtual 151, 3) := by decide +kernel
theorem dX8_errorPosition_13 : decode cX8_errorPosition 13 = .ok (.ireturn, 1) := by decide +kernel
theorem dX8_load_0 : decode cX8_load 0 = .ok (.aload_n 0, 1) := by decide +kernel
theorem dX8_load_1 : decode cX8_load 1 = .ok (.aload_n 0, 1) := by decide +kernel
theorem dX8_load_2 : decode cX8_load 2 = .ok (.aload_n 0, 1) := by decide +kernel
theorem dX8_load_3 : decode cX8_load 3 = .ok (.getfield 16, 3) := by decide +kernel
theorem dX8_load_6 : decode cX8_load 6 = .ok (.invokevirtual 151, 3) := by decide +kernel
theorem dX8_load_9 : decode cX8_load 9 = .ok (.iconst (-1), 1) := by decide +kernel
theorem dX8_load_10 : decode cX8_load 10 = .ok (.if_icmp .ne 7, 3) := by decide +kernel
theorem dX8_load_13 : decode cX8_load 13 = .ok (.iconst 0, 1) := by decide +kernel
theorem dX8_load_14 : decode cX8_load 14 = .ok (.goto 4, 3) := by decide +kernel
theorem dX8_load_17 : decode cX8_load 17 = .ok (.iconst 1, 1) := by decide +kernel
theorem dX8_load_18 : decode cX8_load 18 = .ok (.invokevirtual 102, 3) := by decide +kernel
theorem dX8_load_21 : decode cX8_load 21 = .ok (.ifCond .eq 5, 3) := by decide +kernel
theorem dX8_load_24 : decode cX8_load 24 = .ok (.iconst 0, 1) := by decide +kernel
theorem dX8_load_25 : decode cX8_load 25 = .ok (.ireturn, 1) := by decide +kernel
theorem dX8_load_26 : decode cX8_load 26 = .ok (.aload_n 0, 1) := by decide +kernel
theorem dX8_load_27 : decode cX8_load 27 = .ok (.getfield 16, 3) := by decide +kernel
theorem dX8_load_30 : decode cX8_load 30 = .ok (.iconst 0, 1) := by decide +kernel
theorem dX8_load_31 : decode cX8_load 31 = .ok (.aload_n 0, 1) := by decide +kernel
theorem dX8_load_32 : decode cX8_load 32 = .ok (.getfield 13, 3) := by decide +kernel
theorem dX8_load_35 : decode cX8_load 35 = .ok (.iconst 0, 1) := by decide +kernel
theorem dX8_load_36 : decode cX8_load 36 = .ok (.invokestatic 154, 3) := by decide +kernel
theorem dX8_load_39 : decode cX8_load 39 = .ok (.aload_n 0, 1) := by decide +kernel
theorem dX8_load_40 : decode cX8_load 40 = .ok (.iconst 0, 1) := by decide +kernel
theorem dX8_load_41 : decode cX8_load 41 = .ok (.putfield 158, 3) := by decide +kernel
theorem dX8_load_44 : decode cX8_load 44 = .ok (.aload_n 0, 1) := by decide +kernel
theorem dX8_load_45 : decode cX8_load 45 = .ok (.getfield 25, 3) := by decide +kernel
theorem dX8_load_48 : decode cX8_load 48 = .ok (.iconst 0, 1) := by decide +kernel
theorem dX8_load_49 : decode cX8_load 49 = .ok (.iconst 0, 1) := by decide +kernel
theorem dX8_load_50 : decode cX8_load 50 = .ok (.bastore, 1) := by decide +kernel
theorem dX8_load_51 : decode cX8_load 51 = .ok (.aload_n 0, 1) := by decide +kernel
theorem dX8_load_52 : decode cX8_load 52 = .ok (.getfield 25, 3) := by decide +kernel
theorem dX8_load_55 : decode cX8_load 55 = .ok (.iconst 1, 1) := by decide +kernel
theorem dX8_load_56 : decode cX8_load 56 = .ok (.iconst 0, 1) := by decide +kernel
theorem dX8_load_57 : decode cX8_load 57 = .ok (.bastore, 1) := by decide +kernel
theorem dX8_load_58 : decode cX8_load 58 = .ok (.aload_n 0, 1) := by decide +kernel
theorem dX8_load_59 : decode cX8_load 59 = .ok (.getfield 117, 3) := by decide +kernel
theorem dX8_load_62 : decode cX8_load 62 = .ok (.ireturn, 1) := by decide +kernel
theorem dX8_about_0 : decode cX8_about 0 = .ok (.aload_n 0, 1) := by decide +kernel
theorem dX8_about_1 : decode cX8_about 1 = .ok (.iload_n 1, 1) := by decide +kernel
theorem dX8_about_2 : decode cX8_about 2 = .ok (.i2l, 1) := by decide +kernel
theorem dX8_about_3 : decode cX8_about 3 = .ok (.lconst 0, 1) := by decide +kernel
theorem dX8_about_4 : decode cX8_about 4 = .ok (.ldc2_w 161, 3) := by decide +kernel
theorem dX8_about_7 : decode cX8_about 7 = .ok (.invokestatic 43, 3) := by decide +kernel
theorem dX8_about_10 : decode cX8_about 10 = .ok (.ifCond .eq 7, 3) := by decide +kernel
theorem dX8_about_13 : decode cX8_about 13 = .ok (.iconst 0, 1) := by decide +kernel
theorem dX8_about_14 : decode cX8_about 14 = .ok (.goto 4, 3) := by decide +kernel
theorem dX8_about_17 : decode cX8_about 17 = .ok (.iconst 1, 1) := by decide +kernel
theorem dX8_about_18 : decode cX8_about 18 = .ok (.invokevirtual 102, 3) := by decide +kernel
theorem dX8_about_21 : decode cX8_about 21 = .ok (.ifCond .eq 5, 3) := by decide +kernel
theorem dX8_about_24 : decode cX8_about 24 = .ok (.iconst 0, 1) := by decide +kernel
theorem dX8_about_25 : decode cX8_about 25 = .ok (.ireturn, 1) := by decide +kernel
theorem dX8_about_26 : decode cX8_about 26 = .ok (.iload_n 1, 1) := by decide +kernel
theorem dX8_about_27 : decode cX8_about 27 = .ok (.tableswitch 133 0 6 #[41, 48, 58, 66, 73, 73, 82], 41) := by decide +kernel
theorem dX8_about_68 : decode cX8_about 68 = .ok (.aload_n 0, 1) := by decide +kernel
theorem dX8_about_69 : decode cX8_about 69 = .ok (.getfield 13, 3) := by decide +kernel
theorem dX8_about_72 : decode cX8_about 72 = .ok (.iconst 0, 1) := by decide +kernel
theorem dX8_about_73 : decode cX8_about 73 = .ok (.iaload, 1) := by decide +kernel
theorem dX8_about_74 : decode cX8_about 74 = .ok (.ireturn, 1) := by decide +kernel
theorem dX8_about_75 : decode cX8_about 75 = .ok (.aload_n 0, 1) := by decide +kernel
theorem dX8_about_76 : decode cX8_about 76 = .ok (.getfield 13, 3) := by decide +kernel
theorem dX8_about_79 : decode cX8_about 79 = .ok (.iconst 0, 1) := by decide +kernel
theorem dX8_about_80 : decode cX8_about 80 = .ok (.iaload, 1) := by decide +kernel
theorem dX8_about_81 : decode cX8_about 81 = .ok (.invokestatic 72, 3) := by decide +kernel
theorem dX8_about_84 : decode cX8_about 84 = .ok (.ireturn, 1) := by decide +kernel
theorem dX8_about_85 : decode cX8_about 85 = .ok (.aload_n 0, 1) := by decide +kernel
theorem dX8_about_86 : decode cX8_about 86 = .ok (.getfield 13, 3) := by decide +kernel
theorem dX8_about_89 : decode cX8_about 89 = .ok (.invokestatic 86, 3) := by decide +kernel
theorem dX8_about_92 : decode cX8_about 92 = .ok (.ireturn, 1) := by decide +kernel
theorem dX8_about_93 : decode cX8_about 93 = .ok (.aload_n 0, 1) := by decide +kernel
theorem dX8_about_94 : decode cX8_about 94 = .ok (.getfield 13, 3) := by decide +kernel
theorem dX8_about_97 : decode cX8_about 97 = .ok (.iconst 4, 1) := by decide +kernel
theorem dX8_about_98 : decode cX8_about 98 = .ok (.iaload, 1) := by decide +kernel
theorem dX8_about_99 : decode cX8_about 99 = .ok (.ireturn, 1) := by decide +kernel
theorem dX8_about_100 : decode cX8_about 100 = .ok (.aload_n 0, 1) := by decide +kernel
theorem dX8_about_101 : decode cX8_about 101 = .ok (.getfield 13, 3) := by decide +kernel
theorem dX8_about_104 : decode cX8_about 104 = .ok (.iload_n 1, 1) := by decide +kernel
theorem dX8_about_105 : decode cX8_about 105 = .ok (.iconst 2, 1) := by decide +kernel
theorem dX8_about_106 : decode cX8_about 106 = .ok (.isub, 1) := by decide +kernel
theorem dX8_about_107 : decode cX8_about 107 = .ok (.iaload, 1) := by decide +kernel
theorem dX8_about_108 : decode cX8_about 108 = .ok (.ireturn, 1) := by decide +kernel
theorem dX8_about_109 : decode cX8_about 109 = .ok (.iconst 0, 1) := by decide +kernel
theorem dX8_about_110 : decode cX8_about 110 = .ok (.istore_n 2, 1) := by decide +kernel
theorem dX8_about_111 : decode cX8_about 111 = .ok (.iconst 0, 1) := by decide +kernel
theorem dX8_about_112 : decode cX8_about 112 = .ok (.istore_n 3, 1) := by decide +kernel
theorem dX8_about_113 : decode cX8_about 113 = .ok (.iload_n 3, 1) := by decide +kernel
theorem dX8_about_114 : decode cX8_about 114 = .ok (.aload_n 0, 1) := by decide +kernel
theorem dX8_about_115 : decode cX8_about 115 = .ok (.getfield 13, 3) := by decide +kernel
theorem dX8_about_118 : decode cX8_about 118 = .ok (.iconst 4, 1) := by decide +kernel
theorem dX8_about_119 : decode cX8_about 119 = .ok (.iaload, 1) := by decide +kernel
theorem dX8_about_120 : decode cX8_about 120 = .ok (.if_icmp .ge 38, 3) := by decide +kernel
theorem dX8_about_123 : decode cX8_about 123 = .ok (.iload_n 2, 1) := by decide +kernel
theorem dX8_about_124 : decode cX8_about 124 = .ok (.aload_n 0, 1) := by decide +kernel
theorem dX8_about_125 : decode cX8_about 125 = .ok (.getfield 13, 3) := by decide +kernel
theorem dX8_about_128 : decode cX8_about 128 = .ok (.iload_n 3, 1) := by decide +kernel
theorem dX8_about_129 : decode cX8_about 129 = .ok (.invokestatic 79, 3) := by decide +kernel
theorem dX8_about_132 : decode cX8_about 132 = .ok (.aload_n 0, 1) := by decide +kernel
theorem dX8_about_133 : decode cX8_about 133 = .ok (.getfield 13, 3) := by decide +kernel
theorem dX8_about_136 : decode cX8_about 136 = .ok (.iload_n 3, 1) := by decide +kernel
theorem dX8_about_137 : decode cX8_about 137 = .ok (.iconst 1, 1) := by decide +kernel
theorem dX8_about_138 : decode cX8_about 138 = .ok (.iadd, 1) := by decide +kernel
theorem dX8_about_139 : decode cX8_about 139 = .ok (.invokestatic 79, 3) := by decide +kernel
theorem dX8_about_142 : decode cX8_about 142 = .ok (.if_icmp .ne 7, 3) := by decide +kernel
theorem dX8_about_145 : decode cX8_about 145 = .ok (.iconst 1, 1) := by decide +kernel
theorem dX8_about_146 : decode cX8_about 146 = .ok (.goto 4, 3) := by decide +kernel
theorem dX8_about_149 : decode cX8_about 149 = .ok (.iconst 0, 1) := by decide +kernel
theorem dX8_about_150 : decode cX8_about 150 = .ok (.iadd, 1) := by decide +kernel
theorem dX8_about_151 : decode cX8_about 151 = .ok (.istore_n 2, 1) := by decide +kernel
theorem dX8_about_152 : decode cX8_about 152 = .ok (.iinc 3 1, 3) := by decide +kernel
theorem dX8_about_155 : decode cX8_about 155 = .ok (.goto (-42), 3) := by decide +kernel
theorem dX8_about_158 : decode cX8_about 158 = .ok (.iload_n 2, 1) := by decide +kernel
theorem dX8_about_159 : decode cX8_about 159 = .ok (.ireturn, 1) := by decide +kernel
theorem dX8_about_160 : decode cX8_about 160 = .ok (.aload_n 0, 1) := by decide +kernel
theorem dX8_about_161 : decode cX8_about 161 = .ok (.getfield 13, 3) := by decide +kernel
theorem dX8_about_164 : decode cX8_about 164 = .ok (.iload_n 1, 1) := by decide +kernel
theorem dX8_about_165 : decode cX8_about 165 = .ok (.iconst 2, 1) := by decide +kernel
theorem dX8_about_166 : decode cX8_about 166 = .ok (.isub, 1) := by decide +kernel
theorem dX8_about_167 : decode cX8_about 167 = .ok (.iaload, 1) := by decide +kernel
theorem dX8_about_168 : decode cX8_about 168 = .ok (.ireturn, 1) := by decide +kernel
theorem dX8_coin_0 : decode cX8_coin 0 = .ok (.aload_n 0, 1) := by decide +kernel
theorem dX8_coin_1 : decode cX8_coin 1 = .ok (.aload_n 0, 1) := by decide +kernel
theorem dX8_coin_2 : decode cX8_coin 2 = .ok (.getfield 13, 3) := by decide +kernel
theorem dX8_coin_5 : decode cX8_coin 5 = .ok (.iload_n 1, 1) := by decide +kernel
theorem dX8_coin_6 : decode cX8_coin 6 = .ok (.invokestatic 163, 3) := by decide +kernel
theorem dX8_coin_9 : decode cX8_coin 9 = .ok (.ifCond .eq 7, 3) := by decide +kernel
theorem dX8_coin_12 : decode cX8_coin 12 = .ok (.iconst 0, 1) := by decide +kernel
theorem dX8_coin_13 : decode cX8_coin 13 = .ok (.goto 4, 3) := by decide +kernel
theorem dX8_coin_16 : decode cX8_coin 16 = .ok (.iconst 1, 1) := by decide +kernel
theorem dX8_coin_17 : decode cX8_coin 17 = .ok (.invokevirtual 102, 3) := by decide +kernel
theorem dX8_coin_20 : decode cX8_coin 20 = .ok (.ifCond .eq 5, 3) := by decide +kernel
theorem dX8_coin_23 : decode cX8_coin 23 = .ok (.iconst 0, 1) := by decide +kernel
theorem dX8_coin_24 : decode cX8_coin 24 = .ok (.ireturn, 1) := by decide +kernel
theorem dX8_coin_25 : decode cX8_coin 25 = .ok (.aload_n 0, 1) := by decide +kernel
theorem dX8_coin_26 : decode cX8_coin 26 = .ok (.getfield 13, 3) := by decide +kernel
theorem dX8_coin_29 : decode cX8_coin 29 = .ok (.iload_n 1, 1) := by decide +kernel
theorem dX8_coin_30 : decode cX8_coin 30 = .ok (.invokestatic 166, 3) := by decide +kernel
theorem dX8_coin_33 : decode cX8_coin 33 = .ok (.ireturn, 1) := by decide +kernel
theorem dX8_pans_0 : decode cX8_pans 0 = .ok (.aload_n 0, 1) := by decide +kernel
theorem dX8_pans_1 : decode cX8_pans 1 = .ok (.iconst 0, 1) := by decide +kernel
theorem dX8_pans_2 : decode cX8_pans 2 = .ok (.putfield 39, 3) := by decide +kernel
theorem dX8_pans_5 : decode cX8_pans 5 = .ok (.aload_n 0, 1) := by decide +kernel
theorem dX8_pans_6 : decode cX8_pans 6 = .ok (.getfield 13, 3) := by decide +kernel
theorem dX8_pans_9 : decode cX8_pans 9 = .ok (.invokestatic 169, 3) := by decide +kernel
theorem dX8_pans_12 : decode cX8_pans 12 = .ok (.ireturn, 1) := by decide +kernel
theorem dX8_isLeft_0 : decode cX8_isLeft 0 = .ok (.aload_n 0, 1) := by decide +kernel
theorem dX8_isLeft_1 : decode cX8_isLeft 1 = .ok (.iload_n 1, 1) := by decide +kernel
theorem dX8_isLeft_2 : decode cX8_isLeft 2 = .ok (.i2l, 1) := by decide +kernel
theorem dX8_isLeft_3 : decode cX8_isLeft 3 = .ok (.lconst 0, 1) := by decide +kernel
theorem dX8_isLeft_4 : decode cX8_isLeft 4 = .ok (.aload_n 0, 1) := by decide +kernel
theorem dX8_isLeft_5 : decode cX8_isLeft 5 = .ok (.getfield 13, 3) := by decide +kernel
theorem dX8_isLeft_8 : decode cX8_isLeft 8 = .ok (.iconst 0, 1) := by decide +kernel
theorem dX8_isLeft_9 : decode cX8_isLeft 9 = .ok (.iaload, 1) := by decide +kernel
theorem dX8_isLeft_10 : decode cX8_isLeft 10 = .ok (.invokestatic 72, 3) := by decide +kernel
theorem dX8_isLeft_13 : decode cX8_isLeft 13 = .ok (.iconst 1, 1) := by decide +kernel
theorem dX8_isLeft_14 : decode cX8_isLeft 14 = .ok (.isub, 1) := by decide +kernel
theorem dX8_isLeft_15 : decode cX8_isLeft 15 = .ok (.i2l, 1) := by decide +kernel
theorem dX8_isLeft_16 : decode cX8_isLeft 16 = .ok (.invokestatic 43, 3) := by decide +kernel
theorem dX8_isLeft_19 : decode cX8_isLeft 19 = .ok (.ifCond .eq 7, 3) := by decide +kernel
theorem dX8_isLeft_22 : decode cX8_isLeft 22 = .ok (.iconst 0, 1) := by decide +kernel
theorem dX8_isLeft_23 : decode cX8_isLeft 23 = .ok (.goto 4, 3) := by decide +kernel
theorem dX8_isLeft_26 : decode cX8_isLeft 26 = .ok (.iconst 1, 1) := by decide +kernel
theorem dX8_isLeft_27 : decode cX8_isLeft 27 = .ok (.invokevirtual 102, 3) := by decide +kernel
theorem dX8_isLeft_30 : decode cX8_isLeft 30 = .ok (.ifCond .eq 5, 3) := by decide +kernel
theorem dX8_isLeft_33 : decode cX8_isLeft 33 = .ok (.iconst 0, 1) := by decide +kernel
theorem dX8_isLeft_34 : decode cX8_isLeft 34 = .ok (.ireturn, 1) := by decide +kernel
theorem dX8_isLeft_35 : decode cX8_isLeft 35 = .ok (.aload_n 0, 1) := by decide +kernel
theorem dX8_isLeft_36 : decode cX8_isLeft 36 = .ok (.getfield 13, 3) := by decide +kernel
theorem dX8_isLeft_39 : decode cX8_isLeft 39 = .ok (.iload_n 1, 1) := by decide +kernel
theorem dX8_isLeft_40 : decode cX8_isLeft 40 = .ok (.aload_n 0, 1) := by decide +kernel
theorem dX8_isLeft_41 : decode cX8_isLeft 41 = .ok (.getfield 13, 3) := by decide +kernel
theorem dX8_isLeft_44 : decode cX8_isLeft 44 = .ok (.iconst 4, 1) := by decide +kernel
theorem dX8_isLeft_45 : decode cX8_isLeft 45 = .ok (.iaload, 1) := by decide +kernel
theorem dX8_isLeft_46 : decode cX8_isLeft 46 = .ok (.invokestatic 75, 3) := by decide +kernel
theorem dX8_isLeft_49 : decode cX8_isLeft 49 = .ok (.ifCond .eq 7, 3) := by decide +kernel
theorem dX8_isLeft_52 : decode cX8_isLeft 52 = .ok (.iconst 1, 1) := by decide +kernel
theorem dX8_isLeft_53 : decode cX8_isLeft 53 = .ok (.goto 4, 3) := by decide +kernel
theorem dX8_isLeft_56 : decode cX8_isLeft 56 = .ok (.iconst 0, 1) := by decide +kernel
theorem dX8_isLeft_57 : decode cX8_isLeft 57 = .ok (.ireturn, 1) := by decide +kernel
theorem dX8_weighing_0 : decode cX8_weighing 0 = .ok (.aload_n 0, 1) := by decide +kernel
theorem dX8_weighing_1 : decode cX8_weighing 1 = .ok (.iload_n 1, 1) := by decide +kernel
theorem dX8_weighing_2 : decode cX8_weighing 2 = .ok (.i2l, 1) := by decide +kernel
theorem dX8_weighing_3 : decode cX8_weighing 3 = .ok (.lconst 0, 1) := by decide +kernel
theorem dX8_weighing_4 : decode cX8_weighing 4 = .ok (.aload_n 0, 1) := by decide +kernel
theorem dX8_weighing_5 : decode cX8_weighing 5 = .ok (.getfield 13, 3) := by decide +kernel
theorem dX8_weighing_8 : decode cX8_weighing 8 = .ok (.iconst 4, 1) := by decide +kernel
theorem dX8_weighing_9 : decode cX8_weighing 9 = .ok (.iaload, 1) := by decide +kernel
theorem dX8_weighing_10 : decode cX8_weighing 10 = .ok (.iconst 1, 1) := by decide +kernel
theorem dX8_weighing_11 : decode cX8_weighing 11 = .ok (.isub, 1) := by decide +kernel
theorem dX8_weighing_12 : decode cX8_weighing 12 = .ok (.i2l, 1) := by decide +kernel
theorem dX8_weighing_13 : decode cX8_weighing 13 = .ok (.invokestatic 43, 3) := by decide +kernel
theorem dX8_weighing_16 : decode cX8_weighing 16 = .ok (.ifCond .ne 7, 3) := by decide +kernel
theorem dX8_weighing_19 : decode cX8_weighing 19 = .ok (.iconst 1, 1) := by decide +kernel
theorem dX8_weighing_20 : decode cX8_weighing 20 = .ok (.goto 20, 3) := by decide +kernel
theorem dX8_weighing_23 : decode cX8_weighing 23 = .ok (.iload_n 2, 1) := by decide +kernel
theorem dX8_weighing_24 : decode cX8_weighing 24 = .ok (.i2l, 1) := by decide +kernel
theorem dX8_weighing_25 : decode cX8_weighing 25 = .ok (.lconst 0, 1) := by decide +kernel
theorem dX8_weighing_26 : decode cX8_weighing 26 = .ok (.ldc2_w 172, 3) := by decide +kernel
theorem dX8_weighing_29 : decode cX8_weighing 29 = .ok (.invokestatic 43, 3) := by decide +kernel
theorem dX8_weighing_32 : decode cX8_weighing 32 = .ok (.ifCond .eq 7, 3) := by decide +kernel
theorem dX8_weighing_35 : decode cX8_weighing 35 = .ok (.iconst 0, 1) := by decide +kernel
theorem dX8_weighing_36 : decode cX8_weighing 36 = .ok (.goto 4, 3) := by decide +kernel
theorem dX8_weighing_39 : decode cX8_weighing 39 = .ok (.iconst 2, 1) := by decide +kernel
theorem dX8_weighing_40 : decode cX8_weighing 40 = .ok (.invokevirtual 102, 3) := by decide +kernel
theorem dX8_weighing_43 : decode cX8_weighing 43 = .ok (.ifCond .eq 5, 3) := by decide +kernel
theorem dX8_weighing_46 : decode cX8_weighing 46 = .ok (.iconst 0, 1) := by decide +kernel
theorem dX8_weighing_47 : decode cX8_weighing 47 = .ok (.ireturn, 1) := by decide +kernel
theorem dX8_weighing_48 : decode cX8_weighing 48 = .ok (.iload_n 2, 1) := by decide +kernel
theorem dX8_weighing_49 : decode cX8_weighing 49 = .ok (.iconst 5, 1) := by decide +kernel
theorem dX8_weighing_50 : decode cX8_weighing 50 = .ok (.if_icmp .ne 16, 3) := by decide +kernel
theorem dX8_weighing_53 : decode cX8_weighing 53 = .ok (.aload_n 0, 1) := by decide +kernel
theorem dX8_weighing_54 : decode cX8_weighing 54 = .ok (.getfield 13, 3) := by decide +kernel
theorem dX8_weighing_57 : decode cX8_weighing 57 = .ok (.iload_n 1, 1) := by decide +kernel
theorem dX8_weighing_58 : decode cX8_weighing 58 = .ok (.iconst 1, 1) := by decide +kernel
theorem dX8_weighing_59 : decode cX8_weighing 59 = .ok (.iadd, 1) := by decide +kernel
theorem dX8_weighing_60 : decode cX8_weighing 60 = .ok (.invokestatic 79, 3) := by decide +kernel
theorem dX8_weighing_63 : decode cX8_weighing 63 = .ok (.goto 14, 3) := by decide +kernel
theorem dX8_weighing_66 : decode cX8_weighing 66 = .ok (.aload_n 0, 1) := by decide +kernel
theorem dX8_weighing_67 : decode cX8_weighing 67 = .ok (.getfield 13, 3) := by decide +kernel
theorem dX8_weighing_70 : decode cX8_weighing 70 = .ok (.iload_n 1, 1) := by decide +kernel
theorem dX8_weighing_71 : decode cX8_weighing 71 = .ok (.invokestatic 65, 3) := by decide +kernel
theorem dX8_weighing_74 : decode cX8_weighing 74 = .ok (.iload_n 2, 1) := by decide +kernel
theorem dX8_weighing_75 : decode cX8_weighing 75 = .ok (.iadd, 1) := by decide +kernel
theorem dX8_weighing_76 : decode cX8_weighing 76 = .ok (.iaload, 1) := by decide +kernel
theorem dX8_weighing_77 : decode cX8_weighing 77 = .ok (.ireturn, 1) := by decide +kernel
theorem dX8_remember_0 : decode cX8_remember 0 = .ok (.aload_n 0, 1) := by decide +kernel
theorem dX8_remember_1 : decode cX8_remember 1 = .ok (.getfield 158, 3) := by decide +kernel
theorem dX8_remember_4 : decode cX8_remember 4 = .ok (.bipush 14, 2) := by decide +kernel
theorem dX8_remember_6 : decode cX8_remember 6 = .ok (.if_icmp .ne 43, 3) := by decide +kernel
theorem dX8_remember_9 : decode cX8_remember 9 = .ok (.iconst 0, 1) := by decide +kernel
theorem dX8_remember_10 : decode cX8_remember 10 = .ok (.istore_n 1, 1) := by decide +kernel
theorem dX8_remember_11 : decode cX8_remember 11 = .ok (.iload_n 1, 1) := by decide +kernel
theorem dX8_remember_12 : decode cX8_remember 12 = .ok (.sipush 1391, 3) := by decide +kernel
theorem dX8_remember_15 : decode cX8_remember 15 = .ok (.if_icmp .ge 24, 3) := by decide +kernel
theorem dX8_remember_18 : decode cX8_remember 18 = .ok (.aload_n 0, 1) := by decide +kernel
theorem dX8_remember_19 : decode cX8_remember 19 = .ok (.getfield 19, 3) := by decide +kernel
theorem dX8_remember_22 : decode cX8_remember 22 = .ok (.iload_n 1, 1) := by decide +kernel
theorem dX8_remember_23 : decode cX8_remember 23 = .ok (.aload_n 0, 1) := by decide +kernel
theorem dX8_remember_24 : decode cX8_remember 24 = .ok (.getfield 19, 3) := by decide +kernel
theorem dX8_remember_27 : decode cX8_remember 27 = .ok (.iload_n 1, 1) := by decide +kernel
theorem dX8_remember_28 : decode cX8_remember 28 = .ok (.bipush 107, 2) := by decide +kernel
theorem dX8_remember_30 : decode cX8_remember 30 = .ok (.iadd, 1) := by decide +kernel
theorem dX8_remember_31 : decode cX8_remember 31 = .ok (.iaload, 1) := by decide +kernel
theorem dX8_remember_32 : decode cX8_remember 32 = .ok (.iastore, 1) := by decide +kernel
theorem dX8_remember_33 : decode cX8_remember 33 = .ok (.iinc 1 1, 3) := by decide +kernel
theorem dX8_remember_36 : decode cX8_remember 36 = .ok (.goto (-25), 3) := by decide +kernel
theorem dX8_remember_39 : decode cX8_remember 39 = .ok (.aload_n 0, 1) := by decide +kernel
theorem dX8_remember_40 : decode cX8_remember 40 = .ok (.dup, 1) := by decide +kernel
theorem dX8_remember_41 : decode cX8_remember 41 = .ok (.getfield 158, 3) := by decide +kernel
theorem dX8_remember_44 : decode cX8_remember 44 = .ok (.iconst 1, 1) := by decide +kernel
theorem dX8_remember_45 : decode cX8_remember 45 = .ok (.isub, 1) := by decide +kernel
theorem dX8_remember_46 : decode cX8_remember 46 = .ok (.putfield 158, 3) := by decide +kernel
theorem dX8_remember_49 : decode cX8_remember 49 = .ok (.aload_n 0, 1) := by decide +kernel
theorem dX8_remember_50 : decode cX8_remember 50 = .ok (.getfield 13, 3) := by decide +kernel
theorem dX8_remember_53 : decode cX8_remember 53 = .ok (.iconst 0, 1) := by decide +kernel
theorem dX8_remember_54 : decode cX8_remember 54 = .ok (.aload_n 0, 1) := by decide +kernel
theorem dX8_remember_55 : decode cX8_remember 55 = .ok (.getfield 19, 3) := by decide +kernel
theorem dX8_remember_58 : decode cX8_remember 58 = .ok (.bipush 107, 2) := by decide +kernel
theorem dX8_remember_60 : decode cX8_remember 60 = .ok (.aload_n 0, 1) := by decide +kernel
theorem dX8_remember_61 : decode cX8_remember 61 = .ok (.getfield 158, 3) := by decide +kernel
theorem dX8_remember_64 : decode cX8_remember 64 = .ok (.imul, 1) := by decide +kernel
theorem dX8_remember_65 : decode cX8_remember 65 = .ok (.invokestatic 154, 3) := by decide +kernel
theorem dX8_remember_68 : decode cX8_remember 68 = .ok (.aload_n 0, 1) := by decide +kernel
theorem dX8_remember_69 : decode cX8_remember 69 = .ok (.dup, 1) := by decide +kernel
theorem dX8_remember_70 : decode cX8_remember 70 = .ok (.getfield 158, 3) := by decide +kernel
theorem dX8_remember_73 : decode cX8_remember 73 = .ok (.iconst 1, 1) := by decide +kernel
theorem dX8_remember_74 : decode cX8_remember 74 = .ok (.iadd, 1) := by decide +kernel
theorem dX8_remember_75 : decode cX8_remember 75 = .ok (.putfield 158, 3) := by decide +kernel
theorem dX8_remember_78 : decode cX8_remember 78 = .ok (.return_, 1) := by decide +kernel
theorem dX8_hide_0 : decode cX8_hide 0 = .ok (.aload_n 0, 1) := by decide +kernel
theorem dX8_hide_1 : decode cX8_hide 1 = .ok (.iload_n 1, 1) := by decide +kernel
theorem dX8_hide_2 : decode cX8_hide 2 = .ok (.invokestatic 174, 3) := by decide +kernel
theorem dX8_hide_5 : decode cX8_hide 5 = .ok (.ifCond .ne 7, 3) := by decide +kernel
theorem dX8_hide_8 : decode cX8_hide 8 = .ok (.iconst 2, 1) := by decide +kernel
theorem dX8_hide_9 : decode cX8_hide 9 = .ok (.goto 24, 3) := by decide +kernel
theorem dX8_hide_12 : decode cX8_hide 12 = .ok (.iload_n 2, 1) := by decide +kernel
theorem dX8_hide_13 : decode cX8_hide 13 = .ok (.i2l, 1) := by decide +kernel
theorem dX8_hide_14 : decode cX8_hide 14 = .ok (.lconst 0, 1) := by decide +kernel
theorem dX8_hide_15 : decode cX8_hide 15 = .ok (.iload_n 1, 1) := by decide +kernel
theorem dX8_hide_16 : decode cX8_hide 16 = .ok (.invokestatic 72, 3) := by decide +kernel
theorem dX8_hide_19 : decode cX8_hide 19 = .ok (.iconst 1, 1) := by decide +kernel
theorem dX8_hide_20 : decode cX8_hide 20 = .ok (.isub, 1) := by decide +kernel
theorem dX8_hide_21 : decode cX8_hide 21 = .ok (.i2l, 1) := by decide +kernel
theorem dX8_hide_22 : decode cX8_hide 22 = .ok (.invokestatic 43, 3) := by decide +kernel
theorem dX8_hide_25 : decode cX8_hide 25 = .ok (.ifCond .eq 7, 3) := by decide +kernel
theorem dX8_hide_28 : decode cX8_hide 28 = .ok (.iconst 0, 1) := by decide +kernel
theorem dX8_hide_29 : decode cX8_hide 29 = .ok (.goto 4, 3) := by decide +kernel
theorem dX8_hide_32 : decode cX8_hide 32 = .ok (.iconst 1, 1) := by decide +kernel
theorem dX8_hide_33 : decode cX8_hide 33 = .ok (.invokevirtual 102, 3) := by decide +kernel
theorem dX8_hide_36 : decode cX8_hide 36 = .ok (.ifCond .eq 5, 3) := by decide +kernel
theorem dX8_hide_39 : decode cX8_hide 39 = .ok (.iconst 0, 1) := by decide +kernel
theorem dX8_hide_40 : decode cX8_hide 40 = .ok (.ireturn, 1) := by decide +kernel
theorem dX8_hide_41 : decode cX8_hide 41 = .ok (.aload_n 0, 1) := by decide +kernel
theorem dX8_hide_42 : decode cX8_hide 42 = .ok (.invokevirtual 177, 3) := by decide +kernel
theorem dX8_hide_45 : decode cX8_hide 45 = .ok (.aload_n 0, 1) := by decide +kernel
theorem dX8_hide_46 : decode cX8_hide 46 = .ok (.getfield 13, 3) := by decide +kernel
theorem dX8_hide_49 : decode cX8_hide 49 = .ok (.iload_n 1, 1) := by decide +kernel
theorem dX8_hide_50 : decode cX8_hide 50 = .ok (.iload_n 2, 1) := by decide +kernel
theorem dX8_hide_51 : decode cX8_hide 51 = .ok (.invokestatic 141, 3) := by decide +kernel
theorem dX8_hide_54 : decode cX8_hide 54 = .ok (.ireturn, 1) := by decide +kernel
theorem dX8_arms_0 : decode cX8_arms 0 = .ok (.aload_n 0, 1) := by decide +kernel
theorem dX8_arms_1 : decode cX8_arms 1 = .ok (.iload_n 1, 1) := by decide +kernel
theorem dX8_arms_2 : decode cX8_arms 2 = .ok (.iload_n 2, 1) := by decide +kernel
theorem dX8_arms_3 : decode cX8_arms 3 = .ok (.invokestatic 180, 3) := by decide +kernel
theorem dX8_arms_6 : decode cX8_arms 6 = .ok (.ifCond .eq 7, 3) := by decide +kernel
theorem dX8_arms_9 : decode cX8_arms 9 = .ok (.iconst 0, 1) := by decide +kernel
theorem dX8_arms_10 : decode cX8_arms 10 = .ok (.goto 4, 3) := by decide +kernel
theorem dX8_arms_13 : decode cX8_arms 13 = .ok (.iconst 1, 1) := by decide +kernel
theorem dX8_arms_14 : decode cX8_arms 14 = .ok (.invokevirtual 102, 3) := by decide +kernel
theorem dX8_arms_17 : decode cX8_arms 17 = .ok (.ifCond .eq 5, 3) := by decide +kernel
theorem dX8_arms_20 : decode cX8_arms 20 = .ok (.iconst 0, 1) := by decide +kernel
theorem dX8_arms_21 : decode cX8_arms 21 = .ok (.ireturn, 1) := by decide +kernel
theorem dX8_arms_22 : decode cX8_arms 22 = .ok (.aload_n 0, 1) := by decide +kernel
theorem dX8_arms_23 : decode cX8_arms 23 = .ok (.invokevirtual 177, 3) := by decide +kernel
theorem dX8_arms_26 : decode cX8_arms 26 = .ok (.aload_n 0, 1) := by decide +kernel
theorem dX8_arms_27 : decode cX8_arms 27 = .ok (.getfield 13, 3) := by decide +kernel
theorem dX8_arms_30 : decode cX8_arms 30 = .ok (.iload_n 1, 1) := by decide +kernel
theorem dX8_arms_31 : decode cX8_arms 31 = .ok (.iload_n 2, 1) := by decide +kernel
theorem dX8_arms_32 : decode cX8_arms 32 = .ok (.invokestatic 138, 3) := by decide +kernel
theorem dX8_arms_35 : decode cX8_arms 35 = .ok (.ireturn, 1) := by decide +kernel
theorem dX8_weigh_0 : decode cX8_weigh 0 = .ok (.aload_n 0, 1) := by decide +kernel
theorem dX8_weigh_1 : decode cX8_weigh 1 = .ok (.aload_n 0, 1) := by decide +kernel
theorem dX8_weigh_2 : decode cX8_weigh 2 = .ok (.getfield 13, 3) := by decide +kernel
theorem dX8_weigh_5 : decode cX8_weigh 5 = .ok (.iload_n 1, 1) := by decide +kernel
theorem dX8_weigh_6 : decode cX8_weigh 6 = .ok (.iload_n 2, 1) := by decide +kernel
theorem dX8_weigh_7 : decode cX8_weigh 7 = .ok (.invokestatic 90, 3) := by decide +kernel
theorem dX8_weigh_10 : decode cX8_weigh 10 = .ok (.ifCond .ne 7, 3) := by decide +kernel
theorem dX8_weigh_13 : decode cX8_weigh 13 = .ok (.iconst 1, 1) := by decide +kernel
theorem dX8_weigh_14 : decode cX8_weigh 14 = .ok (.goto 20, 3) := by decide +kernel
theorem dX8_weigh_17 : decode cX8_weigh 17 = .ok (.aload_n 0, 1) := by decide +kernel
theorem dX8_weigh_18 : decode cX8_weigh 18 = .ok (.getfield 13, 3) := by decide +kernel
theorem dX8_weigh_21 : decode cX8_weigh 21 = .ok (.iload_n 1, 1) := by decide +kernel
theorem dX8_weigh_22 : decode cX8_weigh 22 = .ok (.iload_n 2, 1) := by decide +kernel
theorem dX8_weigh_23 : decode cX8_weigh 23 = .ok (.invokestatic 123, 3) := by decide +kernel
theorem dX8_weigh_26 : decode cX8_weigh 26 = .ok (.ifCond .eq 7, 3) := by decide +kernel
theorem dX8_weigh_29 : decode cX8_weigh 29 = .ok (.iconst 0, 1) := by decide +kernel
theorem dX8_weigh_30 : decode cX8_weigh 30 = .ok (.goto 4, 3) := by decide +kernel
theorem dX8_weigh_33 : decode cX8_weigh 33 = .ok (.iconst 2, 1) := by decide +kernel
theorem dX8_weigh_34 : decode cX8_weigh 34 = .ok (.invokevirtual 102, 3) := by decide +kernel
theorem dX8_weigh_37 : decode cX8_weigh 37 = .ok (.ifCond .eq 5, 3) := by decide +kernel
theorem dX8_weigh_40 : decode cX8_weigh 40 = .ok (.iconst 0, 1) := by decide +kernel
theorem dX8_weigh_41 : decode cX8_weigh 41 = .ok (.ireturn, 1) := by decide +kernel
theorem dX8_weigh_42 : decode cX8_weigh 42 = .ok (.aload_n 0, 1) := by decide +kernel
theorem dX8_weigh_43 : decode cX8_weigh 43 = .ok (.invokevirtual 177, 3) := by decide +kernel
theorem dX8_weigh_46 : decode cX8_weigh 46 = .ok (.aload_n 0, 1) := by decide +kernel
theorem dX8_weigh_47 : decode cX8_weigh 47 = .ok (.getfield 13, 3) := by decide +kernel
theorem dX8_weigh_50 : decode cX8_weigh 50 = .ok (.iload_n 1, 1) := by decide +kernel
theorem dX8_weigh_51 : decode cX8_weigh 51 = .ok (.iload_n 2, 1) := by decide +kernel
theorem dX8_weigh_52 : decode cX8_weigh 52 = .ok (.invokestatic 126, 3) := by decide +kernel
theorem dX8_weigh_55 : decode cX8_weigh 55 = .ok (.ireturn, 1) := by decide +kernel
theorem dX8_accuse_0 : decode cX8_accuse 0 = .ok (.aload_n 0, 1) := by decide +kernel
theorem dX8_accuse_1 : decode cX8_accuse 1 = .ok (.aload_n 0, 1) := by decide +kernel
theorem dX8_accuse_2 : decode cX8_accuse 2 = .ok (.getfield 13, 3) := by decide +kernel
theorem dX8_accuse_5 : decode cX8_accuse 5 = .ok (.iload_n 1, 1) := by decide +kernel
theorem dX8_accuse_6 : decode cX8_accuse 6 = .ok (.invokestatic 163, 3) := by decide +kernel
theorem dX8_accuse_9 : decode cX8_accuse 9 = .ok (.ifCond .eq 7, 3) := by decide +kernel
theorem dX8_accuse_12 : decode cX8_accuse 12 = .ok (.iconst 0, 1) := by decide +kernel
theorem dX8_accuse_13 : decode cX8_accuse 13 = .ok (.goto 4, 3) := by decide +kernel
theorem dX8_accuse_16 : decode cX8_accuse 16 = .ok (.iconst 1, 1) := by decide +kernel
theorem dX8_accuse_17 : decode cX8_accuse 17 = .ok (.invokevirtual 102, 3) := by decide +kernel
theorem dX8_accuse_20 : decode cX8_accuse 20 = .ok (.ifCond .eq 5, 3) := by decide +kernel
theorem dX8_accuse_23 : decode cX8_accuse 23 = .ok (.iconst 0, 1) := by decide +kernel
theorem dX8_accuse_24 : decode cX8_accuse 24 = .ok (.ireturn, 1) := by decide +kernel
theorem dX8_accuse_25 : decode cX8_accuse 25 = .ok (.aload_n 0, 1) := by decide +kernel
theorem dX8_accuse_26 : decode cX8_accuse 26 = .ok (.invokevirtual 177, 3) := by decide +kernel
theorem dX8_accuse_29 : decode cX8_accuse 29 = .ok (.aload_n 0, 1) := by decide +kernel
theorem dX8_accuse_30 : decode cX8_accuse 30 = .ok (.getfield 13, 3) := by decide +kernel
theorem dX8_accuse_33 : decode cX8_accuse 33 = .ok (.iload_n 1, 1) := by decide +kernel
theorem dX8_accuse_34 : decode cX8_accuse 34 = .ok (.iload_n 2, 1) := by decide +kernel
theorem dX8_accuse_35 : decode cX8_accuse 35 = .ok (.invokestatic 184, 3) := by decide +kernel
theorem dX8_accuse_38 : decode cX8_accuse 38 = .ok (.ireturn, 1) := by decide +kernel
theorem dX8_accusePan_0 : decode cX8_accusePan 0 = .ok (.aload_n 0, 1) := by decide +kernel
theorem dX8_accusePan_1 : decode cX8_accusePan 1 = .ok (.iload_n 1, 1) := by decide +kernel
theorem dX8_accusePan_2 : decode cX8_accusePan 2 = .ok (.i2l, 1) := by decide +kernel
theorem dX8_accusePan_3 : decode cX8_accusePan 3 = .ok (.lconst 0, 1) := by decide +kernel
theorem dX8_accusePan_4 : decode cX8_accusePan 4 = .ok (.ldc2_w 188, 3) := by decide +kernel
theorem dX8_accusePan_7 : decode cX8_accusePan 7 = .ok (.invokestatic 43, 3) := by decide +kernel
theorem dX8_accusePan_10 : decode cX8_accusePan 10 = .ok (.ifCond .eq 7, 3) := by decide +kernel
theorem dX8_accusePan_13 : decode cX8_accusePan 13 = .ok (.iconst 0, 1) := by decide +kernel
theorem dX8_accusePan_14 : decode cX8_accusePan 14 = .ok (.goto 4, 3) := by decide +kernel
theorem dX8_accusePan_17 : decode cX8_accusePan 17 = .ok (.iconst 1, 1) := by decide +kernel
theorem dX8_accusePan_18 : decode cX8_accusePan 18 = .ok (.invokevirtual 102, 3) := by decide +kernel
theorem dX8_accusePan_21 : decode cX8_accusePan 21 = .ok (.ifCond .eq 5, 3) := by decide +kernel
theorem dX8_accusePan_24 : decode cX8_accusePan 24 = .ok (.iconst 0, 1) := by decide +kernel
theorem dX8_accusePan_25 : decode cX8_accusePan 25 = .ok (.ireturn, 1) := by decide +kernel
theorem dX8_accusePan_26 : decode cX8_accusePan 26 = .ok (.aload_n 0, 1) := by decide +kernel
theorem dX8_accusePan_27 : decode cX8_accusePan 27 = .ok (.invokevirtual 177, 3) := by decide +kernel
theorem dX8_accusePan_30 : decode cX8_accusePan 30 = .ok (.aload_n 0, 1) := by decide +kernel
theorem dX8_accusePan_31 : decode cX8_accusePan 31 = .ok (.getfield 13, 3) := by decide +kernel
theorem dX8_accusePan_34 : decode cX8_accusePan 34 = .ok (.aload_n 0, 1) := by decide +kernel
theorem dX8_accusePan_35 : decode cX8_accusePan 35 = .ok (.getfield 13, 3) := by decide +kernel
theorem dX8_accusePan_38 : decode cX8_accusePan 38 = .ok (.iconst 1, 1) := by decide +kernel
theorem dX8_accusePan_39 : decode cX8_accusePan 39 = .ok (.iaload, 1) := by decide +kernel
theorem dX8_accusePan_40 : decode cX8_accusePan 40 = .ok (.iconst 3, 1) := by decide +kernel
theorem dX8_accusePan_41 : decode cX8_accusePan 41 = .ok (.irem, 1) := by decide +kernel
theorem dX8_accusePan_42 : decode cX8_accusePan 42 = .ok (.iload_n 1, 1) := by decide +kernel
theorem dX8_accusePan_43 : decode cX8_accusePan 43 = .ok (.if_icmp .ne 7, 3) := by decide +kernel
theorem dX8_accusePan_46 : decode cX8_accusePan 46 = .ok (.iconst 1, 1) := by decide +kernel
theorem dX8_accusePan_47 : decode cX8_accusePan 47 = .ok (.goto 4, 3) := by decide +kernel
theorem dX8_accusePan_50 : decode cX8_accusePan 50 = .ok (.iconst 0, 1) := by decide +kernel
theorem dX8_accusePan_51 : decode cX8_accusePan 51 = .ok (.invokestatic 93, 3) := by decide +kernel
theorem dX8_accusePan_54 : decode cX8_accusePan 54 = .ok (.ireturn, 1) := by decide +kernel
theorem dX8_forget_0 : decode cX8_forget 0 = .ok (.aload_n 0, 1) := by decide +kernel
theorem dX8_forget_1 : decode cX8_forget 1 = .ok (.aload_n 0, 1) := by decide +kernel
theorem dX8_forget_2 : decode cX8_forget 2 = .ok (.getfield 13, 3) := by decide +kernel
theorem dX8_forget_5 : decode cX8_forget 5 = .ok (.iconst 4, 1) := by decide +kernel
theorem dX8_forget_6 : decode cX8_forget 6 = .ok (.iaload, 1) := by decide +kernel
theorem dX8_forget_7 : decode cX8_forget 7 = .ok (.ifCond .ne 7, 3) := by decide +kernel
theorem dX8_forget_10 : decode cX8_forget 10 = .ok (.iconst 1, 1) := by decide +kernel
theorem dX8_forget_11 : decode cX8_forget 11 = .ok (.goto 4, 3) := by decide +kernel
theorem dX8_forget_14 : decode cX8_forget 14 = .ok (.iconst 0, 1) := by decide +kernel
theorem dX8_forget_15 : decode cX8_forget 15 = .ok (.invokevirtual 102, 3) := by decide +kernel
theorem dX8_forget_18 : decode cX8_forget 18 = .ok (.ifCond .eq 5, 3) := by decide +kernel
theorem dX8_forget_21 : decode cX8_forget 21 = .ok (.iconst 0, 1) := by decide +kernel
theorem dX8_forget_22 : decode cX8_forget 22 = .ok (.ireturn, 1) := by decide +kernel
theorem dX8_forget_23 : decode cX8_forget 23 = .ok (.aload_n 0, 1) := by decide +kernel
theorem dX8_forget_24 : decode cX8_forget 24 = .ok (.invokevirtual 177, 3) := by decide +kernel
theorem dX8_forget_27 : decode cX8_forget 27 = .ok (.aload_n 0, 1) := by decide +kernel
theorem dX8_forget_28 : decode cX8_forget 28 = .ok (.getfield 13, 3) := by decide +kernel
theorem dX8_forget_31 : decode cX8_forget 31 = .ok (.invokestatic 190, 3) := by decide +kernel
theorem dX8_forget_34 : decode cX8_forget 34 = .ok (.ireturn, 1) := by decide +kernel
theorem dX8_undo_0 : decode cX8_undo 0 = .ok (.aload_n 0, 1) := by decide +kernel
theorem dX8_undo_1 : decode cX8_undo 1 = .ok (.aload_n 0, 1) := by decide +kernel
theorem dX8_undo_2 : decode cX8_undo 2 = .ok (.getfield 158, 3) := by decide +kernel
theorem dX8_undo_5 : decode cX8_undo 5 = .ok (.ifCond .ne 7, 3) := by decide +kernel
theorem dX8_undo_8 : decode cX8_undo 8 = .ok (.iconst 1, 1) := by decide +kernel
theorem dX8_undo_9 : decode cX8_undo 9 = .ok (.goto 4, 3) := by decide +kernel
theorem dX8_undo_12 : decode cX8_undo 12 = .ok (.iconst 0, 1) := by decide +kernel
theorem dX8_undo_13 : decode cX8_undo 13 = .ok (.invokevirtual 102, 3) := by decide +kernel
theorem dX8_undo_16 : decode cX8_undo 16 = .ok (.ifCond .eq 5, 3) := by decide +kernel
theorem dX8_undo_19 : decode cX8_undo 19 = .ok (.iconst 0, 1) := by decide +kernel
theorem dX8_undo_20 : decode cX8_undo 20 = .ok (.ireturn, 1) := by decide +kernel
theorem dX8_undo_21 : decode cX8_undo 21 = .ok (.aload_n 0, 1) := by decide +kernel
theorem dX8_undo_22 : decode cX8_undo 22 = .ok (.dup, 1) := by decide +kernel
theorem dX8_undo_23 : decode cX8_undo 23 = .ok (.getfield 158, 3) := by decide +kernel
theorem dX8_undo_26 : decode cX8_undo 26 = .ok (.iconst 1, 1) := by decide +kernel
theorem dX8_undo_27 : decode cX8_undo 27 = .ok (.isub, 1) := by decide +kernel
theorem dX8_undo_28 : decode cX8_undo 28 = .ok (.putfield 158, 3) := by decide +kernel
theorem dX8_undo_31 : decode cX8_undo 31 = .ok (.aload_n 0, 1) := by decide +kernel
theorem dX8_undo_32 : decode cX8_undo 32 = .ok (.getfield 19, 3) := by decide +kernel
theorem dX8_undo_35 : decode cX8_undo 35 = .ok (.bipush 107, 2) := by decide +kernel
theorem dX8_undo_37 : decode cX8_undo 37 = .ok (.aload_n 0, 1) := by decide +kernel
theorem dX8_undo_38 : decode cX8_undo 38 = .ok (.getfield 158, 3) := by decide +kernel
theorem dX8_undo_41 : decode cX8_undo 41 = .ok (.imul, 1) := by decide +kernel
theorem dX8_undo_42 : decode cX8_undo 42 = .ok (.aload_n 0, 1) := by decide +kernel
theorem dX8_undo_43 : decode cX8_undo 43 = .ok (.getfield 13, 3) := by decide +kernel
theorem dX8_undo_46 : decode cX8_undo 46 = .ok (.iconst 0, 1) := by decide +kernel
theorem dX8_undo_47 : decode cX8_undo 47 = .ok (.invokestatic 154, 3) := by decide +kernel
theorem dX8_undo_50 : decode cX8_undo 50 = .ok (.aload_n 0, 1) := by decide +kernel
theorem dX8_undo_51 : decode cX8_undo 51 = .ok (.getfield 158, 3) := by decide +kernel
theorem dX8_undo_54 : decode cX8_undo 54 = .ok (.ireturn, 1) := by decide +kernel
theorem dX8_leaves_0 : decode cX8_leaves 0 = .ok (.aload_n 0, 1) := by decide +kernel
theorem dX8_leaves_1 : decode cX8_leaves 1 = .ok (.iload_n 3, 1) := by decide +kernel
theorem dX8_leaves_2 : decode cX8_leaves 2 = .ok (.i2l, 1) := by decide +kernel
theorem dX8_leaves_3 : decode cX8_leaves 3 = .ok (.lconst 0, 1) := by decide +kernel
theorem dX8_leaves_4 : decode cX8_leaves 4 = .ok (.ldc2_w 188, 3) := by decide +kernel
theorem dX8_leaves_7 : decode cX8_leaves 7 = .ok (.invokestatic 43, 3) := by decide +kernel
theorem dX8_leaves_10 : decode cX8_leaves 10 = .ok (.ifCond .ne 7, 3) := by decide +kernel
theorem dX8_leaves_13 : decode cX8_leaves 13 = .ok (.iconst 1, 1) := by decide +kernel
theorem dX8_leaves_14 : decode cX8_leaves 14 = .ok (.goto 20, 3) := by decide +kernel
theorem dX8_leaves_17 : decode cX8_leaves 17 = .ok (.aload_n 0, 1) := by decide +kernel
theorem dX8_leaves_18 : decode cX8_leaves 18 = .ok (.getfield 13, 3) := by decide +kernel
theorem dX8_leaves_21 : decode cX8_leaves 21 = .ok (.iload_n 1, 1) := by decide +kernel
theorem dX8_leaves_22 : decode cX8_leaves 22 = .ok (.iload_n 2, 1) := by decide +kernel
theorem dX8_leaves_23 : decode cX8_leaves 23 = .ok (.invokestatic 90, 3) := by decide +kernel
theorem dX8_leaves_26 : decode cX8_leaves 26 = .ok (.ifCond .eq 7, 3) := by decide +kernel
theorem dX8_leaves_29 : decode cX8_leaves 29 = .ok (.iconst 0, 1) := by decide +kernel
theorem dX8_leaves_30 : decode cX8_leaves 30 = .ok (.goto 4, 3) := by decide +kernel
theorem dX8_leaves_33 : decode cX8_leaves 33 = .ok (.iconst 2, 1) := by decide +kernel
theorem dX8_leaves_34 : decode cX8_leaves 34 = .ok (.invokevirtual 102, 3) := by decide +kernel
theorem dX8_leaves_37 : decode cX8_leaves 37 = .ok (.ifCond .eq 5, 3) := by decide +kernel
theorem dX8_leaves_40 : decode cX8_leaves 40 = .ok (.iconst 0, 1) := by decide +kernel
theorem dX8_leaves_41 : decode cX8_leaves 41 = .ok (.ireturn, 1) := by decide +kernel
theorem dX8_leaves_42 : decode cX8_leaves 42 = .ok (.aload_n 0, 1) := by decide +kernel
theorem dX8_leaves_43 : decode cX8_leaves 43 = .ok (.aload_n 0, 1) := by decide +kernel
theorem dX8_leaves_44 : decode cX8_leaves 44 = .ok (.getfield 13, 3) := by decide +kernel
theorem dX8_leaves_47 : decode cX8_leaves 47 = .ok (.invokevirtual 193, 3) := by decide +kernel
theorem dX8_leaves_50 : decode cX8_leaves 50 = .ok (.aload_n 0, 1) := by decide +kernel
theorem dX8_leaves_51 : decode cX8_leaves 51 = .ok (.iload_n 1, 1) := by decide +kernel
theorem dX8_leaves_52 : decode cX8_leaves 52 = .ok (.iload_n 2, 1) := by decide +kernel
theorem dX8_leaves_53 : decode cX8_leaves 53 = .ok (.aload_n 0, 1) := by decide +kernel
theorem dX8_leaves_54 : decode cX8_leaves 54 = .ok (.getfield 13, 3) := by decide +kernel
theorem dX8_leaves_57 : decode cX8_leaves 57 = .ok (.iconst 2, 1) := by decide +kernel
theorem dX8_leaves_58 : decode cX8_leaves 58 = .ok (.iaload, 1) := by decide +kernel
theorem dX8_leaves_59 : decode cX8_leaves 59 = .ok (.aload_n 0, 1) := by decide +kernel
theorem dX8_leaves_60 : decode cX8_leaves 60 = .ok (.getfield 13, 3) := by decide +kernel
theorem dX8_leaves_63 : decode cX8_leaves 63 = .ok (.iconst 3, 1) := by decide +kernel
theorem dX8_leaves_64 : decode cX8_leaves 64 = .ok (.iaload, 1) := by decide +kernel
theorem dX8_leaves_65 : decode cX8_leaves 65 = .ok (.invokevirtual 196, 3) := by decide +kernel
theorem dX8_leaves_68 : decode cX8_leaves 68 = .ok (.pop, 1) := by decide +kernel
theorem dX8_leaves_69 : decode cX8_leaves 69 = .ok (.aload_n 0, 1) := by decide +kernel
theorem dX8_leaves_70 : decode cX8_leaves 70 = .ok (.getfield 32, 3) := by decide +kernel
theorem dX8_leaves_73 : decode cX8_leaves 73 = .ok (.iload_n 3, 1) := by decide +kernel
theorem dX8_leaves_74 : decode cX8_leaves 74 = .ok (.iaload, 1) := by decide +kernel
theorem dX8_leaves_75 : decode cX8_leaves 75 = .ok (.ireturn, 1) := by decide +kernel
theorem dX8_best_0 : decode cX8_best 0 = .ok (.aload_n 0, 1) := by decide +kernel
theorem dX8_best_1 : decode cX8_best 1 = .ok (.iload_n 1, 1) := by decide +kernel
theorem dX8_best_2 : decode cX8_best 2 = .ok (.i2l, 1) := by decide +kernel
theorem dX8_best_3 : decode cX8_best 3 = .ok (.lconst 1, 1) := by decide +kernel
theorem dX8_best_4 : decode cX8_best 4 = .ok (.ldc2_w 188, 3) := by decide +kernel
theorem dX8_best_7 : decode cX8_best 7 = .ok (.invokestatic 43, 3) := by decide +kernel
theorem dX8_best_10 : decode cX8_best 10 = .ok (.ifCond .eq 19, 3) := by decide +kernel
theorem dX8_best_13 : decode cX8_best 13 = .ok (.iload_n 2, 1) := by decide +kernel
theorem dX8_best_14 : decode cX8_best 14 = .ok (.i2l, 1) := by decide +kernel
theorem dX8_best_15 : decode cX8_best 15 = .ok (.lconst 0, 1) := by decide +kernel
theorem dX8_best_16 : decode cX8_best 16 = .ok (.ldc2_w 188, 3) := by decide +kernel
theorem dX8_best_19 : decode cX8_best 19 = .ok (.invokestatic 43, 3) := by decide +kernel
theorem dX8_best_22 : decode cX8_best 22 = .ok (.ifCond .eq 7, 3) := by decide +kernel
theorem dX8_best_25 : decode cX8_best 25 = .ok (.iconst 0, 1) := by decide +kernel
theorem dX8_best_26 : decode cX8_best 26 = .ok (.goto 4, 3) := by decide +kernel
theorem dX8_best_29 : decode cX8_best 29 = .ok (.iconst 1, 1) := by decide +kernel
theorem dX8_best_30 : decode cX8_best 30 = .ok (.invokevirtual 102, 3) := by decide +kernel
theorem dX8_best_33 : decode cX8_best 33 = .ok (.ifCond .eq 5, 3) := by decide +kernel
theorem dX8_best_36 : decode cX8_best 36 = .ok (.iconst 0, 1) := by decide +kernel
theorem dX8_best_37 : decode cX8_best 37 = .ok (.ireturn, 1) := by decide +kernel
theorem dX8_best_38 : decode cX8_best 38 = .ok (.aload_n 0, 1) := by decide +kernel
theorem dX8_best_39 : decode cX8_best 39 = .ok (.aload_n 0, 1) := by decide +kernel
theorem dX8_best_40 : decode cX8_best 40 = .ok (.getfield 13, 3) := by decide +kernel
theorem dX8_best_43 : decode cX8_best 43 = .ok (.invokevirtual 193, 3) := by decide +kernel
theorem dX8_best_46 : decode cX8_best 46 = .ok (.iconst 1, 1) := by decide +kernel
theorem dX8_best_47 : decode cX8_best 47 = .ok (.aload_n 0, 1) := by decide +kernel
theorem dX8_best_48 : decode cX8_best 48 = .ok (.getfield 13, 3) := by decide +kernel
theorem dX8_best_51 : decode cX8_best 51 = .ok (.iconst 0, 1) := by decide +kernel
theorem dX8_best_52 : decode cX8_best 52 = .ok (.iaload, 1) := by decide +kernel
theorem dX8_best_53 : decode cX8_best 53 = .ok (.ishl, 1) := by decide +kernel
theorem dX8_best_54 : decode cX8_best 54 = .ok (.istore_n 3, 1) := by decide +kernel
theorem dX8_best_55 : decode cX8_best 55 = .ok (.iconst (-1), 1) := by decide +kernel
theorem dX8_best_56 : decode cX8_best 56 = .ok (.istore 4, 2) := by decide +kernel
theorem dX8_best_58 : decode cX8_best 58 = .ok (.iconst (-1), 1) := by decide +kernel
theorem dX8_best_59 : decode cX8_best 59 = .ok (.istore 5, 2) := by decide +kernel
theorem dX8_best_61 : decode cX8_best 61 = .ok (.iconst (-1), 1) := by decide +kernel
theorem dX8_best_62 : decode cX8_best 62 = .ok (.istore 6, 2) := by decide +kernel
theorem dX8_best_64 : decode cX8_best 64 = .ok (.iconst 0, 1) := by decide +kernel
theorem dX8_best_65 : decode cX8_best 65 = .ok (.istore 7, 2) := by decide +kernel
theorem dX8_best_67 : decode cX8_best 67 = .ok (.iload 7, 2) := by decide +kernel
theorem dX8_best_69 : decode cX8_best 69 = .ok (.iload_n 3, 1) := by decide +kernel
theorem dX8_best_70 : decode cX8_best 70 = .ok (.if_icmp .ge 134, 3) := by decide +kernel
theorem dX8_best_73 : decode cX8_best 73 = .ok (.iconst 0, 1) := by decide +kernel
theorem dX8_best_74 : decode cX8_best 74 = .ok (.istore 8, 2) := by decide +kernel
theorem dX8_best_76 : decode cX8_best 76 = .ok (.iload 8, 2) := by decide +kernel
theorem dX8_best_78 : decode cX8_best 78 = .ok (.iload_n 3, 1) := by decide +kernel
theorem dX8_best_79 : decode cX8_best 79 = .ok (.if_icmp .ge 119, 3) := by decide +kernel
theorem dX8_best_82 : decode cX8_best 82 = .ok (.iload 7, 2) := by decide +kernel
theorem dX8_best_84 : decode cX8_best 84 = .ok (.invokestatic 57, 3) := by decide +kernel
theorem dX8_best_87 : decode cX8_best 87 = .ok (.iload_n 1, 1) := by decide +kernel
theorem dX8_best_88 : decode cX8_best 88 = .ok (.if_icmp .ne 110, 3) := by decide +kernel
theorem dX8_best_91 : decode cX8_best 91 = .ok (.iload 7, 2) := by decide +kernel
theorem dX8_best_93 : decode cX8_best 93 = .ok (.iload 8, 2) := by decide +kernel
theorem dX8_best_95 : decode cX8_best 95 = .ok (.iand, 1) := by decide +kernel
theorem dX8_best_96 : decode cX8_best 96 = .ok (.ifCond .ne 96, 3) := by decide +kernel
theorem dX8_best_99 : decode cX8_best 99 = .ok (.iload 8, 2) := by decide +kernel
theorem dX8_best_101 : decode cX8_best 101 = .ok (.invokestatic 57, 3) := by decide +kernel
theorem dX8_best_104 : decode cX8_best 104 = .ok (.iload_n 1, 1) := by decide +kernel
theorem dX8_best_105 : decode cX8_best 105 = .ok (.if_icmp .ne 87, 3) := by decide +kernel
theorem dX8_best_108 : decode cX8_best 108 = .ok (.aload_n 0, 1) := by decide +kernel
theorem dX8_best_109 : decode cX8_best 109 = .ok (.iload 7, 2) := by decide +kernel
theorem dX8_best_111 : decode cX8_best 111 = .ok (.iload 8, 2) := by decide +kernel
theorem dX8_best_113 : decode cX8_best 113 = .ok (.aload_n 0, 1) := by decide +kernel
theorem dX8_best_114 : decode cX8_best 114 = .ok (.getfield 13, 3) := by decide +kernel
theorem dX8_best_117 : decode cX8_best 117 = .ok (.iconst 2, 1) := by decide +kernel
theorem dX8_best_118 : decode cX8_best 118 = .ok (.iaload, 1) := by decide +kernel
theorem dX8_best_119 : decode cX8_best 119 = .ok (.aload_n 0, 1) := by decide +kernel
theorem dX8_best_120 : decode cX8_best 120 = .ok (.getfield 13, 3) := by decide +kernel
theorem dX8_best_123 : decode cX8_best 123 = .ok (.iconst 3, 1) := by decide +kernel
theorem dX8_best_124 : decode cX8_best 124 = .ok (.iaload, 1) := by decide +kernel
theorem dX8_best_125 : decode cX8_best 125 = .ok (.invokevirtual 196, 3) := by decide +kernel
theorem dX8_best_128 : decode cX8_best 128 = .ok (.istore 9, 2) := by decide +kernel
theorem dX8_best_130 : decode cX8_best 130 = .ok (.iload 6, 2) := by decide +kernel
theorem dX8_best_132 : decode cX8_best 132 = .ok (.iconst (-1), 1) := by decide +kernel
theorem dX8_best_133 : decode cX8_best 133 = .ok (.if_icmp .eq 10, 3) := by decide +kernel
theorem dX8_best_136 : decode cX8_best 136 = .ok (.iload 9, 2) := by decide +kernel
theorem dX8_best_138 : decode cX8_best 138 = .ok (.iload 6, 2) := by decide +kernel
theorem dX8_best_140 : decode cX8_best 140 = .ok (.if_icmp .ge 7, 3) := by decide +kernel
theorem dX8_best_143 : decode cX8_best 143 = .ok (.iconst 1, 1) := by decide +kernel
theorem dX8_best_144 : decode cX8_best 144 = .ok (.goto 4, 3) := by decide +kernel
theorem dX8_best_147 : decode cX8_best 147 = .ok (.iconst 0, 1) := by decide +kernel
theorem dX8_best_148 : decode cX8_best 148 = .ok (.istore 10, 2) := by decide +kernel
theorem dX8_best_150 : decode cX8_best 150 = .ok (.iload 10, 2) := by decide +kernel
theorem dX8_best_152 : decode cX8_best 152 = .ok (.ifCond .eq 8, 3) := by decide +kernel
theorem dX8_best_155 : decode cX8_best 155 = .ok (.iload 7, 2) := by decide +kernel
theorem dX8_best_157 : decode cX8_best 157 = .ok (.goto 5, 3) := by decide +kernel
theorem dX8_best_160 : decode cX8_best 160 = .ok (.iload 4, 2) := by decide +kernel
theorem dX8_best_162 : decode cX8_best 162 = .ok (.istore 4, 2) := by decide +kernel
theorem dX8_best_164 : decode cX8_best 164 = .ok (.iload 10, 2) := by decide +kernel
theorem dX8_best_166 : decode cX8_best 166 = .ok (.ifCond .eq 8, 3) := by decide +kernel
theorem dX8_best_169 : decode cX8_best 169 = .ok (.iload 8, 2) := by decide +kernel
theorem dX8_best_171 : decode cX8_best 171 = .ok (.goto 5, 3) := by decide +kernel
theorem dX8_best_174 : decode cX8_best 174 = .ok (.iload 5, 2) := by decide +kernel
theorem dX8_best_176 : decode cX8_best 176 = .ok (.istore 5, 2) := by decide +kernel
theorem dX8_best_178 : decode cX8_best 178 = .ok (.iload 10, 2) := by decide +kernel
theorem dX8_best_180 : decode cX8_best 180 = .ok (.ifCond .eq 8, 3) := by decide +kernel
theorem dX8_best_183 : decode cX8_best 183 = .ok (.iload 9, 2) := by decide +kernel
theorem dX8_best_185 : decode cX8_best 185 = .ok (.goto 5, 3) := by decide +kernel
theorem dX8_best_188 : decode cX8_best 188 = .ok (.iload 6, 2) := by decide +kernel
theorem dX8_best_190 : decode cX8_best 190 = .ok (.istore 6, 2) := by decide +kernel
theorem dX8_best_192 : decode cX8_best 192 = .ok (.iinc 8 1, 3) := by decide +kernel
theorem dX8_best_195 : decode cX8_best 195 = .ok (.goto (-119), 3) := by decide +kernel
theorem dX8_best_198 : decode cX8_best 198 = .ok (.iinc 7 1, 3) := by decide +kernel
theorem dX8_best_201 : decode cX8_best 201 = .ok (.goto (-134), 3) := by decide +kernel
theorem dX8_best_204 : decode cX8_best 204 = .ok (.iload_n 2, 1) := by decide +kernel
theorem dX8_best_205 : decode cX8_best 205 = .ok (.ifCond .ne 8, 3) := by decide +kernel
theorem dX8_best_208 : decode cX8_best 208 = .ok (.iload 4, 2) := by decide +kernel
theorem dX8_best_210 : decode cX8_best 210 = .ok (.goto 15, 3) := by decide +kernel
theorem dX8_best_213 : decode cX8_best 213 = .ok (.iload_n 2, 1) := by decide +kernel
theorem dX8_best_214 : decode cX8_best 214 = .ok (.iconst 1, 1) := by decide +kernel
theorem dX8_best_215 : decode cX8_best 215 = .ok (.if_icmp .ne 8, 3) := by decide +kernel
theorem dX8_best_218 : decode cX8_best 218 = .ok (.iload 5, 2) := by decide +kernel
theorem dX8_best_220 : decode cX8_best 220 = .ok (.goto 5, 3) := by decide +kernel
theorem dX8_best_223 : decode cX8_best 223 = .ok (.iload 6, 2) := by decide +kernel
theorem dX8_best_225 : decode cX8_best 225 = .ok (.ireturn, 1) := by decide +kernel
theorem dX8_sharpest_0 : decode cX8_sharpest 0 = .ok (.aload_n 0, 1) := by decide +kernel
theorem dX8_sharpest_1 : decode cX8_sharpest 1 = .ok (.iconst 0, 1) := by decide +kernel
theorem dX8_sharpest_2 : decode cX8_sharpest 2 = .ok (.putfield 39, 3) := by decide +kernel
theorem dX8_sharpest_5 : decode cX8_sharpest 5 = .ok (.aload_n 0, 1) := by decide +kernel
theorem dX8_sharpest_6 : decode cX8_sharpest 6 = .ok (.aload_n 0, 1) := by decide +kernel
theorem dX8_sharpest_7 : decode cX8_sharpest 7 = .ok (.getfield 13, 3) := by decide +kernel
theorem dX8_sharpest_10 : decode cX8_sharpest 10 = .ok (.invokevirtual 193, 3) := by decide +kernel
theorem dX8_sharpest_13 : decode cX8_sharpest 13 = .ok (.iconst (-1), 1) := by decide +kernel
theorem dX8_sharpest_14 : decode cX8_sharpest 14 = .ok (.istore_n 1, 1) := by decide +kernel
theorem dX8_sharpest_15 : decode cX8_sharpest 15 = .ok (.iconst 0, 1) := by decide +kernel
theorem dX8_sharpest_16 : decode cX8_sharpest 16 = .ok (.istore_n 2, 1) := by decide +kernel
theorem dX8_sharpest_17 : decode cX8_sharpest 17 = .ok (.iconst 0, 1) := by decide +kernel
theorem dX8_sharpest_18 : decode cX8_sharpest 18 = .ok (.istore_n 3, 1) := by decide +kernel
theorem dX8_sharpest_19 : decode cX8_sharpest 19 = .ok (.iload_n 3, 1) := by decide +kernel
theorem dX8_sharpest_20 : decode cX8_sharpest 20 = .ok (.aload_n 0, 1) := by decide +kernel
theorem dX8_sharpest_21 : decode cX8_sharpest 21 = .ok (.getfield 13, 3) := by decide +kernel
theorem dX8_sharpest_24 : decode cX8_sharpest 24 = .ok (.iconst 0, 1) := by decide +kernel
theorem dX8_sharpest_25 : decode cX8_sharpest 25 = .ok (.iaload, 1) := by decide +kernel
theorem dX8_sharpest_26 : decode cX8_sharpest 26 = .ok (.if_icmp .ge 158, 3) := by decide +kernel
theorem dX8_sharpest_29 : decode cX8_sharpest 29 = .ok (.iconst 0, 1) := by decide +kernel
theorem dX8_sharpest_30 : decode cX8_sharpest 30 = .ok (.istore 4, 2) := by decide +kernel
theorem dX8_sharpest_32 : decode cX8_sharpest 32 = .ok (.iload 4, 2) := by decide +kernel
theorem dX8_sharpest_34 : decode cX8_sharpest 34 = .ok (.bipush 12, 2) := by decide +kernel
theorem dX8_sharpest_36 : decode cX8_sharpest 36 = .ok (.if_icmp .gt 142, 3) := by decide +kernel
theorem dX8_sharpest_39 : decode cX8_sharpest 39 = .ok (.iload 4, 2) := by decide +kernel
theorem dX8_sharpest_41 : decode cX8_sharpest 41 = .ok (.bipush 12, 2) := by decide +kernel
theorem dX8_sharpest_43 : decode cX8_sharpest 43 = .ok (.if_icmp .eq 20, 3) := by decide +kernel
theorem dX8_sharpest_46 : decode cX8_sharpest 46 = .ok (.iload 4, 2) := by decide +kernel
theorem dX8_sharpest_48 : decode cX8_sharpest 48 = .ok (.aload_n 0, 1) := by decide +kernel
theorem dX8_sharpest_49 : decode cX8_sharpest 49 = .ok (.getfield 13, 3) := by decide +kernel
theorem dX8_sharpest_52 : decode cX8_sharpest 52 = .ok (.iconst 0, 1) := by decide +kernel
theorem dX8_sharpest_53 : decode cX8_sharpest 53 = .ok (.iaload, 1) := by decide +kernel
theorem dX8_sharpest_54 : decode cX8_sharpest 54 = .ok (.if_icmp .ge 118, 3) := by decide +kernel
theorem dX8_sharpest_57 : decode cX8_sharpest 57 = .ok (.iload 4, 2) := by decide +kernel
theorem dX8_sharpest_59 : decode cX8_sharpest 59 = .ok (.iload_n 3, 1) := by decide +kernel
theorem dX8_sharpest_60 : decode cX8_sharpest 60 = .ok (.if_icmp .eq 112, 3) := by decide +kernel
theorem dX8_sharpest_63 : decode cX8_sharpest 63 = .ok (.aload_n 0, 1) := by decide +kernel
theorem dX8_sharpest_64 : decode cX8_sharpest 64 = .ok (.iconst 1, 1) := by decide +kernel
theorem dX8_sharpest_65 : decode cX8_sharpest 65 = .ok (.iload_n 3, 1) := by decide +kernel
theorem dX8_sharpest_66 : decode cX8_sharpest 66 = .ok (.ishl, 1) := by decide +kernel
theorem dX8_sharpest_67 : decode cX8_sharpest 67 = .ok (.iload 4, 2) := by decide +kernel
theorem dX8_sharpest_69 : decode cX8_sharpest 69 = .ok (.bipush 12, 2) := by decide +kernel
theorem dX8_sharpest_71 : decode cX8_sharpest 71 = .ok (.if_icmp .ne 7, 3) := by decide +kernel
theorem dX8_sharpest_74 : decode cX8_sharpest 74 = .ok (.iconst 0, 1) := by decide +kernel
theorem dX8_sharpest_75 : decode cX8_sharpest 75 = .ok (.goto 7, 3) := by decide +kernel
theorem dX8_sharpest_78 : decode cX8_sharpest 78 = .ok (.iconst 1, 1) := by decide +kernel
theorem dX8_sharpest_79 : decode cX8_sharpest 79 = .ok (.iload 4, 2) := by decide +kernel
theorem dX8_sharpest_81 : decode cX8_sharpest 81 = .ok (.ishl, 1) := by decide +kernel
theorem dX8_sharpest_82 : decode cX8_sharpest 82 = .ok (.aload_n 0, 1) := by decide +kernel
theorem dX8_sharpest_83 : decode cX8_sharpest 83 = .ok (.getfield 13, 3) := by decide +kernel
theorem dX8_sharpest_86 : decode cX8_sharpest 86 = .ok (.iconst 2, 1) := by decide +kernel
theorem dX8_sharpest_87 : decode cX8_sharpest 87 = .ok (.iaload, 1) := by decide +kernel
theorem dX8_sharpest_88 : decode cX8_sharpest 88 = .ok (.aload_n 0, 1) := by decide +kernel
theorem dX8_sharpest_89 : decode cX8_sharpest 89 = .ok (.getfield 13, 3) := by decide +kernel
theorem dX8_sharpest_92 : decode cX8_sharpest 92 = .ok (.iconst 3, 1) := by decide +kernel
theorem dX8_sharpest_93 : decode cX8_sharpest 93 = .ok (.iaload, 1) := by decide +kernel
theorem dX8_sharpest_94 : decode cX8_sharpest 94 = .ok (.invokevirtual 196, 3) := by decide +kernel
theorem dX8_sharpest_97 : decode cX8_sharpest 97 = .ok (.pop, 1) := by decide +kernel
theorem dX8_sharpest_98 : decode cX8_sharpest 98 = .ok (.aload_n 0, 1) := by decide +kernel
theorem dX8_sharpest_99 : decode cX8_sharpest 99 = .ok (.getfield 32, 3) := by decide +kernel
theorem dX8_sharpest_102 : decode cX8_sharpest 102 = .ok (.iconst 0, 1) := by decide +kernel
theorem dX8_sharpest_103 : decode cX8_sharpest 103 = .ok (.iaload, 1) := by decide +kernel
theorem dX8_sharpest_104 : decode cX8_sharpest 104 = .ok (.aload_n 0, 1) := by decide +kernel
theorem dX8_sharpest_105 : decode cX8_sharpest 105 = .ok (.getfield 32, 3) := by decide +kernel
theorem dX8_sharpest_108 : decode cX8_sharpest 108 = .ok (.iconst 1, 1) := by decide +kernel
theorem dX8_sharpest_109 : decode cX8_sharpest 109 = .ok (.iaload, 1) := by decide +kernel
theorem dX8_sharpest_110 : decode cX8_sharpest 110 = .ok (.imul, 1) := by decide +kernel
theorem dX8_sharpest_111 : decode cX8_sharpest 111 = .ok (.aload_n 0, 1) := by decide +kernel
theorem dX8_sharpest_112 : decode cX8_sharpest 112 = .ok (.getfield 32, 3) := by decide +kernel
theorem dX8_sharpest_115 : decode cX8_sharpest 115 = .ok (.iconst 0, 1) := by decide +kernel
theorem dX8_sharpest_116 : decode cX8_sharpest 116 = .ok (.iaload, 1) := by decide +kernel
theorem dX8_sharpest_117 : decode cX8_sharpest 117 = .ok (.aload_n 0, 1) := by decide +kernel
theorem dX8_sharpest_118 : decode cX8_sharpest 118 = .ok (.getfield 32, 3) := by decide +kernel
theorem dX8_sharpest_121 : decode cX8_sharpest 121 = .ok (.iconst 2, 1) := by decide +kernel
theorem dX8_sharpest_122 : decode cX8_sharpest 122 = .ok (.iaload, 1) := by decide +kernel
theorem dX8_sharpest_123 : decode cX8_sharpest 123 = .ok (.imul, 1) := by decide +kernel
theorem dX8_sharpest_124 : decode cX8_sharpest 124 = .ok (.iadd, 1) := by decide +kernel
theorem dX8_sharpest_125 : decode cX8_sharpest 125 = .ok (.aload_n 0, 1) := by decide +kernel
theorem dX8_sharpest_126 : decode cX8_sharpest 126 = .ok (.getfield 32, 3) := by decide +kernel
theorem dX8_sharpest_129 : decode cX8_sharpest 129 = .ok (.iconst 1, 1) := by decide +kernel
theorem dX8_sharpest_130 : decode cX8_sharpest 130 = .ok (.iaload, 1) := by decide +kernel
theorem dX8_sharpest_131 : decode cX8_sharpest 131 = .ok (.aload_n 0, 1) := by decide +kernel
theorem dX8_sharpest_132 : decode cX8_sharpest 132 = .ok (.getfield 32, 3) := by decide +kernel
theorem dX8_sharpest_135 : decode cX8_sharpest 135 = .ok (.iconst 2, 1) := by decide +kernel
theorem dX8_sharpest_136 : decode cX8_sharpest 136 = .ok (.iaload, 1) := by decide +kernel
theorem dX8_sharpest_137 : decode cX8_sharpest 137 = .ok (.imul, 1) := by decide +kernel
theorem dX8_sharpest_138 : decode cX8_sharpest 138 = .ok (.iadd, 1) := by decide +kernel
theorem dX8_sharpest_139 : decode cX8_sharpest 139 = .ok (.istore 5, 2) := by decide +kernel
theorem dX8_sharpest_141 : decode cX8_sharpest 141 = .ok (.iload 5, 2) := by decide +kernel
theorem dX8_sharpest_143 : decode cX8_sharpest 143 = .ok (.iload_n 2, 1) := by decide +kernel
theorem dX8_sharpest_144 : decode cX8_sharpest 144 = .ok (.if_icmp .le 13, 3) := by decide +kernel
theorem dX8_sharpest_147 : decode cX8_sharpest 147 = .ok (.bipush 100, 2) := by decide +kernel
theorem dX8_sharpest_149 : decode cX8_sharpest 149 = .ok (.iload_n 3, 1) := by decide +kernel
theorem dX8_sharpest_150 : decode cX8_sharpest 150 = .ok (.imul, 1) := by decide +kernel
theorem dX8_sharpest_151 : decode cX8_sharpest 151 = .ok (.iload 4, 2) := by decide +kernel
theorem dX8_sharpest_153 : decode cX8_sharpest 153 = .ok (.iadd, 1) := by decide +kernel
theorem dX8_sharpest_154 : decode cX8_sharpest 154 = .ok (.goto 4, 3) := by decide +kernel
theorem dX8_sharpest_157 : decode cX8_sharpest 157 = .ok (.iload_n 1, 1) := by decide +kernel
theorem dX8_sharpest_158 : decode cX8_sharpest 158 = .ok (.istore_n 1, 1) := by decide +kernel
theorem dX8_sharpest_159 : decode cX8_sharpest 159 = .ok (.iload 5, 2) := by decide +kernel
theorem dX8_sharpest_161 : decode cX8_sharpest 161 = .ok (.iload_n 2, 1) := by decide +kernel
theorem dX8_sharpest_162 : decode cX8_sharpest 162 = .ok (.if_icmp .le 8, 3) := by decide +kernel
theorem dX8_sharpest_165 : decode cX8_sharpest 165 = .ok (.iload 5, 2) := by decide +kernel
theorem dX8_sharpest_167 : decode cX8_sharpest 167 = .ok (.goto 4, 3) := by decide +kernel
theorem dX8_sharpest_170 : decode cX8_sharpest 170 = .ok (.iload_n 2, 1) := by decide +kernel
theorem dX8_sharpest_171 : decode cX8_sharpest 171 = .ok (.istore_n 2, 1) := by decide +kernel
theorem dX8_sharpest_172 : decode cX8_sharpest 172 = .ok (.iinc 4 1, 3) := by decide +kernel
theorem dX8_sharpest_175 : decode cX8_sharpest 175 = .ok (.goto (-143), 3) := by decide +kernel
theorem dX8_sharpest_178 : decode cX8_sharpest 178 = .ok (.iinc 3 1, 3) := by decide +kernel
theorem dX8_sharpest_181 : decode cX8_sharpest 181 = .ok (.goto (-162), 3) := by decide +kernel
theorem dX8_sharpest_184 : decode cX8_sharpest 184 = .ok (.iload_n 1, 1) := by decide +kernel
theorem dX8_sharpest_185 : decode cX8_sharpest 185 = .ok (.ireturn, 1) := by decide +kernel
theorem dX8_needs_0 : decode cX8_needs 0 = .ok (.aload_n 0, 1) := by decide +kernel
theorem dX8_needs_1 : decode cX8_needs 1 = .ok (.iconst 0, 1) := by decide +kernel
theorem dX8_needs_2 : decode cX8_needs 2 = .ok (.putfield 39, 3) := by decide +kernel
theorem dX8_needs_5 : decode cX8_needs 5 = .ok (.aload_n 0, 1) := by decide +kernel
theorem dX8_needs_6 : decode cX8_needs 6 = .ok (.getfield 13, 3) := by decide +kernel
theorem dX8_needs_9 : decode cX8_needs 9 = .ok (.invokestatic 199, 3) := by decide +kernel
theorem dX8_needs_12 : decode cX8_needs 12 = .ok (.ireturn, 1) := by decide +kernel
theorem dX8_bestArms_0 : decode cX8_bestArms 0 = .ok (.aload_n 0, 1) := by decide +kernel
theorem dX8_bestArms_1 : decode cX8_bestArms 1 = .ok (.aload_n 0, 1) := by decide +kernel
theorem dX8_bestArms_2 : decode cX8_bestArms 2 = .ok (.getfield 13, 3) := by decide +kernel
theorem dX8_bestArms_5 : decode cX8_bestArms 5 = .ok (.iload_n 1, 1) := by decide +kernel
theorem dX8_bestArms_6 : decode cX8_bestArms 6 = .ok (.iload_n 2, 1) := by decide +kernel
theorem dX8_bestArms_7 : decode cX8_bestArms 7 = .ok (.invokestatic 90, 3) := by decide +kernel
theorem dX8_bestArms_10 : decode cX8_bestArms 10 = .ok (.ifCond .eq 7, 3) := by decide +kernel
theorem dX8_bestArms_13 : decode cX8_bestArms 13 = .ok (.iconst 0, 1) := by decide +kernel
theorem dX8_bestArms_14 : decode cX8_bestArms 14 = .ok (.goto 4, 3) := by decide +kernel
theorem dX8_bestArms_17 : decode cX8_bestArms 17 = .ok (.iconst 1, 1) := by decide +kernel
theorem dX8_bestArms_18 : decode cX8_bestArms 18 = .ok (.invokevirtual 102, 3) := by decide +kernel
theorem dX8_bestArms_21 : decode cX8_bestArms 21 = .ok (.ifCond .eq 5, 3) := by decide +kernel
theorem dX8_bestArms_24 : decode cX8_bestArms 24 = .ok (.iconst 0, 1) := by decide +kernel
theorem dX8_bestArms_25 : decode cX8_bestArms 25 = .ok (.ireturn, 1) := by decide +kernel
theorem dX8_bestArms_26 : decode cX8_bestArms 26 = .ok (.aload_n 0, 1) := by decide +kernel
theorem dX8_bestArms_27 : decode cX8_bestArms 27 = .ok (.aload_n 0, 1) := by decide +kernel
theorem dX8_bestArms_28 : decode cX8_bestArms 28 = .ok (.getfield 13, 3) := by decide +kernel
theorem dX8_bestArms_31 : decode cX8_bestArms 31 = .ok (.invokevirtual 193, 3) := by decide +kernel
theorem dX8_bestArms_34 : decode cX8_bestArms 34 = .ok (.iconst (-1), 1) := by decide +kernel
theorem dX8_bestArms_35 : decode cX8_bestArms 35 = .ok (.istore_n 3, 1) := by decide +kernel
theorem dX8_bestArms_36 : decode cX8_bestArms 36 = .ok (.iconst 0, 1) := by decide +kernel
theorem dX8_bestArms_37 : decode cX8_bestArms 37 = .ok (.istore 4, 2) := by decide +kernel
theorem dX8_bestArms_39 : decode cX8_bestArms 39 = .ok (.iconst 1, 1) := by decide +kernel
theorem dX8_bestArms_40 : decode cX8_bestArms 40 = .ok (.istore 5, 2) := by decide +kernel
theorem dX8_bestArms_42 : decode cX8_bestArms 42 = .ok (.iload 5, 2) := by decide +kernel
theorem dX8_bestArms_44 : decode cX8_bestArms 44 = .ok (.bipush 20, 2) := by decide +kernel
theorem dX8_bestArms_46 : decode cX8_bestArms 46 = .ok (.if_icmp .gt 88, 3) := by decide +kernel
theorem dX8_bestArms_49 : decode cX8_bestArms 49 = .ok (.iconst 1, 1) := by decide +kernel
theorem dX8_bestArms_50 : decode cX8_bestArms 50 = .ok (.istore 6, 2) := by decide +kernel
theorem dX8_bestArms_52 : decode cX8_bestArms 52 = .ok (.iload 6, 2) := by decide +kernel
theorem dX8_bestArms_54 : decode cX8_bestArms 54 = .ok (.bipush 20, 2) := by decide +kernel
theorem dX8_bestArms_56 : decode cX8_bestArms 56 = .ok (.if_icmp .gt 72, 3) := by decide +kernel
theorem dX8_bestArms_59 : decode cX8_bestArms 59 = .ok (.aload_n 0, 1) := by decide +kernel
theorem dX8_bestArms_60 : decode cX8_bestArms 60 = .ok (.iload_n 1, 1) := by decide +kernel
theorem dX8_bestArms_61 : decode cX8_bestArms 61 = .ok (.iload_n 2, 1) := by decide +kernel
theorem dX8_bestArms_62 : decode cX8_bestArms 62 = .ok (.iload 5, 2) := by decide +kernel
theorem dX8_bestArms_64 : decode cX8_bestArms 64 = .ok (.iload 6, 2) := by decide +kernel
theorem dX8_bestArms_66 : decode cX8_bestArms 66 = .ok (.invokevirtual 196, 3) := by decide +kernel
theorem dX8_bestArms_69 : decode cX8_bestArms 69 = .ok (.istore 7, 2) := by decide +kernel
theorem dX8_bestArms_71 : decode cX8_bestArms 71 = .ok (.iload_n 3, 1) := by decide +kernel
theorem dX8_bestArms_72 : decode cX8_bestArms 72 = .ok (.iconst (-1), 1) := by decide +kernel
theorem dX8_bestArms_73 : decode cX8_bestArms 73 = .ok (.if_icmp .eq 10, 3) := by decide +kernel
theorem dX8_bestArms_76 : decode cX8_bestArms 76 = .ok (.iload 7, 2) := by decide +kernel
theorem dX8_bestArms_78 : decode cX8_bestArms 78 = .ok (.iload 4, 2) := by decide +kernel
theorem dX8_bestArms_80 : decode cX8_bestArms 80 = .ok (.if_icmp .ge 7, 3) := by decide +kernel
theorem dX8_bestArms_83 : decode cX8_bestArms 83 = .ok (.iconst 1, 1) := by decide +kernel
theorem dX8_bestArms_84 : decode cX8_bestArms 84 = .ok (.goto 4, 3) := by decide +kernel
theorem dX8_bestArms_87 : decode cX8_bestArms 87 = .ok (.iconst 0, 1) := by decide +kernel
theorem dX8_bestArms_88 : decode cX8_bestArms 88 = .ok (.istore 8, 2) := by decide +kernel
theorem dX8_bestArms_90 : decode cX8_bestArms 90 = .ok (.iload 8, 2) := by decide +kernel
theorem dX8_bestArms_92 : decode cX8_bestArms 92 = .ok (.ifCond .eq 14, 3) := by decide +kernel
theorem dX8_bestArms_95 : decode cX8_bestArms 95 = .ok (.bipush 100, 2) := by decide +kernel
theorem dX8_bestArms_97 : decode cX8_bestArms 97 = .ok (.iload 5, 2) := by decide +kernel
theorem dX8_bestArms_99 : decode cX8_bestArms 99 = .ok (.imul, 1) := by decide +kernel
theorem dX8_bestArms_100 : decode cX8_bestArms 100 = .ok (.iload 6, 2) := by decide +kernel
theorem dX8_bestArms_102 : decode cX8_bestArms 102 = .ok (.iadd, 1) := by decide +kernel
theorem dX8_bestArms_103 : decode cX8_bestArms 103 = .ok (.goto 4, 3) := by decide +kernel
theorem dX8_bestArms_106 : decode cX8_bestArms 106 = .ok (.iload_n 3, 1) := by decide +kernel
theorem dX8_bestArms_107 : decode cX8_bestArms 107 = .ok (.istore_n 3, 1) := by decide +kernel
theorem dX8_bestArms_108 : decode cX8_bestArms 108 = .ok (.iload 8, 2) := by decide +kernel
theorem dX8_bestArms_110 : decode cX8_bestArms 110 = .ok (.ifCond .eq 8, 3) := by decide +kernel
theorem dX8_bestArms_113 : decode cX8_bestArms 113 = .ok (.iload 7, 2) := by decide +kernel
theorem dX8_bestArms_115 : decode cX8_bestArms 115 = .ok (.goto 5, 3) := by decide +kernel
theorem dX8_bestArms_118 : decode cX8_bestArms 118 = .ok (.iload 4, 2) := by decide +kernel
theorem dX8_bestArms_120 : decode cX8_bestArms 120 = .ok (.istore 4, 2) := by decide +kernel
theorem dX8_bestArms_122 : decode cX8_bestArms 122 = .ok (.iinc 6 1, 3) := by decide +kernel
theorem dX8_bestArms_125 : decode cX8_bestArms 125 = .ok (.goto (-73), 3) := by decide +kernel
theorem dX8_bestArms_128 : decode cX8_bestArms 128 = .ok (.iinc 5 1, 3) := by decide +kernel
theorem dX8_bestArms_131 : decode cX8_bestArms 131 = .ok (.goto (-89), 3) := by decide +kernel
theorem dX8_bestArms_134 : decode cX8_bestArms 134 = .ok (.iload_n 3, 1) := by decide +kernel
theorem dX8_bestArms_135 : decode cX8_bestArms 135 = .ok (.ireturn, 1) := by decide +kernel
theorem dX8_weighs_0 : decode cX8_weighs 0 = .ok (.iload_n 2, 1) := by decide +kernel
theorem dX8_weighs_1 : decode cX8_weighs 1 = .ok (.bipush 99, 2) := by decide +kernel
theorem dX8_weighs_3 : decode cX8_weighs 3 = .ok (.if_icmp .ne 7, 3) := by decide +kernel
theorem dX8_weighs_6 : decode cX8_weighs 6 = .ok (.iconst 0, 1) := by decide +kernel
theorem dX8_weighs_7 : decode cX8_weighs 7 = .ok (.goto 21, 3) := by decide +kernel
theorem dX8_weighs_10 : decode cX8_weighs 10 = .ok (.aload_n 0, 1) := by decide +kernel
theorem dX8_weighs_11 : decode cX8_weighs 11 = .ok (.getfield 16, 3) := by decide +kernel
theorem dX8_weighs_14 : decode cX8_weighs 14 = .ok (.iload_n 2, 1) := by decide +kernel
theorem dX8_weighs_15 : decode cX8_weighs 15 = .ok (.invokestatic 163, 3) := by decide +kernel
theorem dX8_weighs_18 : decode cX8_weighs 18 = .ok (.ifCond .eq 9, 3) := by decide +kernel
theorem dX8_weighs_21 : decode cX8_weighs 21 = .ok (.iconst 1, 1) := by decide +kernel
theorem dX8_weighs_22 : decode cX8_weighs 22 = .ok (.iload_n 2, 1) := by decide +kernel
theorem dX8_weighs_23 : decode cX8_weighs 23 = .ok (.ishl, 1) := by decide +kernel
theorem dX8_weighs_24 : decode cX8_weighs 24 = .ok (.goto 4, 3) := by decide +kernel
theorem dX8_weighs_27 : decode cX8_weighs 27 = .ok (.iconst (-1), 1) := by decide +kernel
theorem dX8_weighs_28 : decode cX8_weighs 28 = .ok (.istore_n 3, 1) := by decide +kernel
theorem dX8_weighs_29 : decode cX8_weighs 29 = .ok (.aload_n 0, 1) := by decide +kernel
theorem dX8_weighs_30 : decode cX8_weighs 30 = .ok (.getfield 16, 3) := by decide +kernel
theorem dX8_weighs_33 : decode cX8_weighs 33 = .ok (.iload_n 1, 1) := by decide +kernel
theorem dX8_weighs_34 : decode cX8_weighs 34 = .ok (.invokestatic 163, 3) := by decide +kernel
theorem dX8_weighs_37 : decode cX8_weighs 37 = .ok (.ifCond .eq 40, 3) := by decide +kernel
theorem dX8_weighs_40 : decode cX8_weighs 40 = .ok (.iload_n 3, 1) := by decide +kernel
theorem dX8_weighs_41 : decode cX8_weighs 41 = .ok (.iconst (-1), 1) := by decide +kernel
theorem dX8_weighs_42 : decode cX8_weighs 42 = .ok (.if_icmp .eq 35, 3) := by decide +kernel
theorem dX8_weighs_45 : decode cX8_weighs 45 = .ok (.aload_n 0, 1) := by decide +kernel
theorem dX8_weighs_46 : decode cX8_weighs 46 = .ok (.getfield 16, 3) := by decide +kernel
theorem dX8_weighs_49 : decode cX8_weighs 49 = .ok (.iconst 1, 1) := by decide +kernel
theorem dX8_weighs_50 : decode cX8_weighs 50 = .ok (.iload_n 1, 1) := by decide +kernel
theorem dX8_weighs_51 : decode cX8_weighs 51 = .ok (.ishl, 1) := by decide +kernel
theorem dX8_weighs_52 : decode cX8_weighs 52 = .ok (.iload_n 3, 1) := by decide +kernel
theorem dX8_weighs_53 : decode cX8_weighs 53 = .ok (.invokestatic 123, 3) := by decide +kernel
theorem dX8_weighs_56 : decode cX8_weighs 56 = .ok (.ifCond .eq 21, 3) := by decide +kernel
theorem dX8_weighs_59 : decode cX8_weighs 59 = .ok (.aload_n 0, 1) := by decide +kernel
theorem dX8_weighs_60 : decode cX8_weighs 60 = .ok (.getfield 16, 3) := by decide +kernel
theorem dX8_weighs_63 : decode cX8_weighs 63 = .ok (.iconst 1, 1) := by decide +kernel
theorem dX8_weighs_64 : decode cX8_weighs 64 = .ok (.iload_n 1, 1) := by decide +kernel
theorem dX8_weighs_65 : decode cX8_weighs 65 = .ok (.ishl, 1) := by decide +kernel
theorem dX8_weighs_66 : decode cX8_weighs 66 = .ok (.iload_n 3, 1) := by decide +kernel
theorem dX8_weighs_67 : decode cX8_weighs 67 = .ok (.invokestatic 126, 3) := by decide +kernel
theorem dX8_weighs_70 : decode cX8_weighs 70 = .ok (.ifCond .lt 7, 3) := by decide +kernel
theorem dX8_weighs_73 : decode cX8_weighs 73 = .ok (.iconst 1, 1) := by decide +kernel
theorem dX8_weighs_74 : decode cX8_weighs 74 = .ok (.goto 4, 3) := by decide +kernel
theorem dX8_weighs_77 : decode cX8_weighs 77 = .ok (.iconst 0, 1) := by decide +kernel
theorem dX8_weighs_78 : decode cX8_weighs 78 = .ok (.ireturn, 1) := by decide +kernel
theorem dX8_command_0 : decode cX8_command 0 = .ok (.iload_n 2, 1) := by decide +kernel
theorem dX8_command_1 : decode cX8_command 1 = .ok (.bipush 100, 2) := by decide +kernel
theorem dX8_command_3 : decode cX8_command 3 = .ok (.idiv, 1) := by decide +kernel
theorem dX8_command_4 : decode cX8_command 4 = .ok (.istore_n 3, 1) := by decide +kernel
theorem dX8_command_5 : decode cX8_command 5 = .ok (.iload_n 2, 1) := by decide +kernel
theorem dX8_command_6 : decode cX8_command 6 = .ok (.bipush 100, 2) := by decide +kernel
theorem dX8_command_8 : decode cX8_command 8 = .ok (.irem, 1) := by decide +kernel
theorem dX8_command_9 : decode cX8_command 9 = .ok (.istore 4, 2) := by decide +kernel
theorem dX8_command_11 : decode cX8_command 11 = .ok (.iload_n 2, 1) := by decide +kernel
theorem dX8_command_12 : decode cX8_command 12 = .ok (.sipush 1000, 3) := by decide +kernel
theorem dX8_command_15 : decode cX8_command 15 = .ok (.idiv, 1) := by decide +kernel
theorem dX8_command_16 : decode cX8_command 16 = .ok (.istore 5, 2) := by decide +kernel
theorem dX8_command_18 : decode cX8_command 18 = .ok (.iload_n 1, 1) := by decide +kernel
theorem dX8_command_19 : decode cX8_command 19 = .ok (.tableswitch 315 1 9 #[49, 57, 85, 131, 180, 209, 232, 269, 292], 49) := by decide +kernel
theorem dX8_command_68 : decode cX8_command 68 = .ok (.aload_n 0, 1) := by decide +kernel
theorem dX8_command_69 : decode cX8_command 69 = .ok (.iload_n 3, 1) := by decide +kernel
theorem dX8_command_70 : decode cX8_command 70 = .ok (.iload 4, 2) := by decide +kernel
theorem dX8_command_72 : decode cX8_command 72 = .ok (.invokevirtual 202, 3) := by decide +kernel
theorem dX8_command_75 : decode cX8_command 75 = .ok (.ireturn, 1) := by decide +kernel
theorem dX8_command_76 : decode cX8_command 76 = .ok (.iload_n 3, 1) := by decide +kernel
theorem dX8_command_77 : decode cX8_command 77 = .ok (.iload 4, 2) := by decide +kernel
theorem dX8_command_79 : decode cX8_command 79 = .ok (.invokestatic 180, 3) := by decide +kernel
theorem dX8_command_82 : decode cX8_command 82 = .ok (.ifCond .eq 20, 3) := by decide +kernel
theorem dX8_command_85 : decode cX8_command 85 = .ok (.aload_n 0, 1) := by decide +kernel
theorem dX8_command_86 : decode cX8_command 86 = .ok (.getfield 16, 3) := by decide +kernel
theorem dX8_command_89 : decode cX8_command 89 = .ok (.iload_n 3, 1) := by decide +kernel
theorem dX8_command_90 : decode cX8_command 90 = .ok (.iload 4, 2) := by decide +kernel
theorem dX8_command_92 : decode cX8_command 92 = .ok (.invokestatic 138, 3) := by decide +kernel
theorem dX8_command_95 : decode cX8_command 95 = .ok (.ifCond .lt 7, 3) := by decide +kernel
theorem dX8_command_98 : decode cX8_command 98 = .ok (.iconst 1, 1) := by decide +kernel
theorem dX8_command_99 : decode cX8_command 99 = .ok (.goto 4, 3) := by decide +kernel
theorem dX8_command_102 : decode cX8_command 102 = .ok (.iconst 0, 1) := by decide +kernel
theorem dX8_command_103 : decode cX8_command 103 = .ok (.ireturn, 1) := by decide +kernel
theorem dX8_command_104 : decode cX8_command 104 = .ok (.iload 4, 2) := by decide +kernel
theorem dX8_command_106 : decode cX8_command 106 = .ok (.iconst 2, 1) := by decide +kernel
theorem dX8_command_107 : decode cX8_command 107 = .ok (.if_icmp .ge 41, 3) := by decide +kernel
theorem dX8_command_110 : decode cX8_command 110 = .ok (.aload_n 0, 1) := by decide +kernel
theorem dX8_command_111 : decode cX8_command 111 = .ok (.getfield 16, 3) := by decide +kernel
theorem dX8_command_114 : decode cX8_command 114 = .ok (.iload_n 3, 1) := by decide +kernel
theorem dX8_command_115 : decode cX8_command 115 = .ok (.invokestatic 163, 3) := by decide +kernel
theorem dX8_command_118 : decode cX8_command 118 = .ok (.ifCond .eq 30, 3) := by decide +kernel
theorem dX8_command_121 : decode cX8_command 121 = .ok (.aload_n 0, 1) := by decide +kernel
theorem dX8_command_122 : decode cX8_command 122 = .ok (.getfield 16, 3) := by decide +kernel
theorem dX8_command_125 : decode cX8_command 125 = .ok (.iload_n 3, 1) := by decide +kernel
theorem dX8_command_126 : decode cX8_command 126 = .ok (.iload 4, 2) := by decide +kernel
theorem dX8_command_128 : decode cX8_command 128 = .ok (.iconst 1, 1) := by decide +kernel
theorem dX8_command_129 : decode cX8_command 129 = .ok (.if_icmp .ne 7, 3) := by decide +kernel
theorem dX8_command_132 : decode cX8_command 132 = .ok (.iconst 1, 1) := by decide +kernel
theorem dX8_command_133 : decode cX8_command 133 = .ok (.goto 4, 3) := by decide +kernel
theorem dX8_command_136 : decode cX8_command 136 = .ok (.iconst 0, 1) := by decide +kernel
theorem dX8_command_137 : decode cX8_command 137 = .ok (.invokestatic 184, 3) := by decide +kernel
theorem dX8_command_140 : decode cX8_command 140 = .ok (.iconst 1, 1) := by decide +kernel
theorem dX8_command_141 : decode cX8_command 141 = .ok (.if_icmp .ne 7, 3) := by decide +kernel
theorem dX8_command_144 : decode cX8_command 144 = .ok (.iconst 1, 1) := by decide +kernel
theorem dX8_command_145 : decode cX8_command 145 = .ok (.goto 4, 3) := by decide +kernel
theorem dX8_command_148 : decode cX8_command 148 = .ok (.iconst 0, 1) := by decide +kernel
theorem dX8_command_149 : decode cX8_command 149 = .ok (.ireturn, 1) := by decide +kernel
theorem dX8_command_150 : decode cX8_command 150 = .ok (.iload_n 2, 1) := by decide +kernel
theorem dX8_command_151 : decode cX8_command 151 = .ok (.sipush 1000, 3) := by decide +kernel
theorem dX8_command_154 : decode cX8_command 154 = .ok (.irem, 1) := by decide +kernel
theorem dX8_command_155 : decode cX8_command 155 = .ok (.ifCond .ne 42, 3) := by decide +kernel
theorem dX8_command_158 : decode cX8_command 158 = .ok (.iload 5, 2) := by decide +kernel
theorem dX8_command_160 : decode cX8_command 160 = .ok (.iconst 3, 1) := by decide +kernel
theorem dX8_command_161 : decode cX8_command 161 = .ok (.if_icmp .ge 36, 3) := by decide +kernel
theorem dX8_command_164 : decode cX8_command 164 = .ok (.aload_n 0, 1) := by decide +kernel
theorem dX8_command_165 : decode cX8_command 165 = .ok (.getfield 16, 3) := by decide +kernel
theorem dX8_command_168 : decode cX8_command 168 = .ok (.aload_n 0, 1) := by decide +kernel
theorem dX8_command_169 : decode cX8_command 169 = .ok (.getfield 16, 3) := by decide +kernel
theorem dX8_command_172 : decode cX8_command 172 = .ok (.iconst 1, 1) := by decide +kernel
theorem dX8_command_173 : decode cX8_command 173 = .ok (.iaload, 1) := by decide +kernel
theorem dX8_command_174 : decode cX8_command 174 = .ok (.iconst 3, 1) := by decide +kernel
theorem dX8_command_175 : decode cX8_command 175 = .ok (.irem, 1) := by decide +kernel
theorem dX8_command_176 : decode cX8_command 176 = .ok (.iload 5, 2) := by decide +kernel
theorem dX8_command_178 : decode cX8_command 178 = .ok (.if_icmp .ne 7, 3) := by decide +kernel
theorem dX8_command_181 : decode cX8_command 181 = .ok (.iconst 1, 1) := by decide +kernel
theorem dX8_command_182 : decode cX8_command 182 = .ok (.goto 4, 3) := by decide +kernel
theorem dX8_command_185 : decode cX8_command 185 = .ok (.iconst 0, 1) := by decide +kernel
theorem dX8_command_186 : decode cX8_command 186 = .ok (.invokestatic 93, 3) := by decide +kernel
theorem dX8_command_189 : decode cX8_command 189 = .ok (.iconst 1, 1) := by decide +kernel
theorem dX8_command_190 : decode cX8_command 190 = .ok (.if_icmp .ne 7, 3) := by decide +kernel
theorem dX8_command_193 : decode cX8_command 193 = .ok (.iconst 1, 1) := by decide +kernel
theorem dX8_command_194 : decode cX8_command 194 = .ok (.goto 4, 3) := by decide +kernel
theorem dX8_command_197 : decode cX8_command 197 = .ok (.iconst 0, 1) := by decide +kernel
theorem dX8_command_198 : decode cX8_command 198 = .ok (.ireturn, 1) := by decide +kernel
theorem dX8_command_199 : decode cX8_command 199 = .ok (.iload_n 2, 1) := by decide +kernel
theorem dX8_command_200 : decode cX8_command 200 = .ok (.ifCond .ne 26, 3) := by decide +kernel
theorem dX8_command_203 : decode cX8_command 203 = .ok (.aload_n 0, 1) := by decide +kernel
theorem dX8_command_204 : decode cX8_command 204 = .ok (.getfield 16, 3) := by decide +kernel
theorem dX8_command_207 : decode cX8_command 207 = .ok (.iconst 4, 1) := by decide +kernel
theorem dX8_command_208 : decode cX8_command 208 = .ok (.iaload, 1) := by decide +kernel
theorem dX8_command_209 : decode cX8_command 209 = .ok (.ifCond .le 17, 3) := by decide +kernel
theorem dX8_command_212 : decode cX8_command 212 = .ok (.aload_n 0, 1) := by decide +kernel
theorem dX8_command_213 : decode cX8_command 213 = .ok (.getfield 16, 3) := by decide +kernel
theorem dX8_command_216 : decode cX8_command 216 = .ok (.invokestatic 190, 3) := by decide +kernel
theorem dX8_command_219 : decode cX8_command 219 = .ok (.ifCond .lt 7, 3) := by decide +kernel
theorem dX8_command_222 : decode cX8_command 222 = .ok (.iconst 1, 1) := by decide +kernel
theorem dX8_command_223 : decode cX8_command 223 = .ok (.goto 4, 3) := by decide +kernel
theorem dX8_command_226 : decode cX8_command 226 = .ok (.iconst 0, 1) := by decide +kernel
theorem dX8_command_227 : decode cX8_command 227 = .ok (.ireturn, 1) := by decide +kernel
theorem dX8_command_228 : decode cX8_command 228 = .ok (.iload_n 2, 1) := by decide +kernel
theorem dX8_command_229 : decode cX8_command 229 = .ok (.bipush 100, 2) := by decide +kernel
theorem dX8_command_231 : decode cX8_command 231 = .ok (.if_icmp .ge 18, 3) := by decide +kernel
theorem dX8_command_234 : decode cX8_command 234 = .ok (.aload_n 0, 1) := by decide +kernel
theorem dX8_command_235 : decode cX8_command 235 = .ok (.getfield 16, 3) := by decide +kernel
theorem dX8_command_238 : decode cX8_command 238 = .ok (.invokestatic 86, 3) := by decide +kernel
theorem dX8_command_241 : decode cX8_command 241 = .ok (.iload_n 2, 1) := by decide +kernel
theorem dX8_command_242 : decode cX8_command 242 = .ok (.if_icmp .gt 7, 3) := by decide +kernel
theorem dX8_command_245 : decode cX8_command 245 = .ok (.iconst 1, 1) := by decide +kernel
theorem dX8_command_246 : decode cX8_command 246 = .ok (.goto 4, 3) := by decide +kernel
theorem dX8_command_249 : decode cX8_command 249 = .ok (.iconst 0, 1) := by decide +kernel
theorem dX8_command_250 : decode cX8_command 250 = .ok (.ireturn, 1) := by decide +kernel
theorem dX8_command_251 : decode cX8_command 251 = .ok (.iload 4, 2) := by decide +kernel
theorem dX8_command_253 : decode cX8_command 253 = .ok (.bipush 10, 2) := by decide +kernel
theorem dX8_command_255 : decode cX8_command 255 = .ok (.if_icmp .ge 31, 3) := by decide +kernel
theorem dX8_command_258 : decode cX8_command 258 = .ok (.aload_n 0, 1) := by decide +kernel
theorem dX8_command_259 : decode cX8_command 259 = .ok (.getfield 16, 3) := by decide +kernel
theorem dX8_command_262 : decode cX8_command 262 = .ok (.iload_n 3, 1) := by decide +kernel
theorem dX8_command_263 : decode cX8_command 263 = .ok (.invokestatic 163, 3) := by decide +kernel
theorem dX8_command_266 : decode cX8_command 266 = .ok (.ifCond .eq 20, 3) := by decide +kernel
theorem dX8_command_269 : decode cX8_command 269 = .ok (.aload_n 0, 1) := by decide +kernel
theorem dX8_command_270 : decode cX8_command 270 = .ok (.getfield 16, 3) := by decide +kernel
theorem dX8_command_273 : decode cX8_command 273 = .ok (.iload_n 3, 1) := by decide +kernel
theorem dX8_command_274 : decode cX8_command 274 = .ok (.invokestatic 166, 3) := by decide +kernel
theorem dX8_command_277 : decode cX8_command 277 = .ok (.iload 4, 2) := by decide +kernel
theorem dX8_command_279 : decode cX8_command 279 = .ok (.if_icmp .ne 7, 3) := by decide +kernel
theorem dX8_command_282 : decode cX8_command 282 = .ok (.iconst 1, 1) := by decide +kernel
theorem dX8_command_283 : decode cX8_command 283 = .ok (.goto 4, 3) := by decide +kernel
theorem dX8_command_286 : decode cX8_command 286 = .ok (.iconst 0, 1) := by decide +kernel
theorem dX8_command_287 : decode cX8_command 287 = .ok (.ireturn, 1) := by decide +kernel
theorem dX8_command_288 : decode cX8_command 288 = .ok (.iload_n 2, 1) := by decide +kernel
theorem dX8_command_289 : decode cX8_command 289 = .ok (.bipush 10, 2) := by decide +kernel
theorem dX8_command_291 : decode cX8_command 291 = .ok (.if_icmp .ge 18, 3) := by decide +kernel
theorem dX8_command_294 : decode cX8_command 294 = .ok (.aload_n 0, 1) := by decide +kernel
theorem dX8_command_295 : decode cX8_command 295 = .ok (.getfield 16, 3) := by decide +kernel
theorem dX8_command_298 : decode cX8_command 298 = .ok (.invokestatic 169, 3) := by decide +kernel
theorem dX8_command_301 : decode cX8_command 301 = .ok (.iload_n 2, 1) := by decide +kernel
theorem dX8_command_302 : decode cX8_command 302 = .ok (.if_icmp .ne 7, 3) := by decide +kernel
theorem dX8_command_305 : decode cX8_command 305 = .ok (.iconst 1, 1) := by decide +kernel
theorem dX8_command_306 : decode cX8_command 306 = .ok (.goto 4, 3) := by decide +kernel
theorem dX8_command_309 : decode cX8_command 309 = .ok (.iconst 0, 1) := by decide +kernel
theorem dX8_command_310 : decode cX8_command 310 = .ok (.ireturn, 1) := by decide +kernel
theorem dX8_command_311 : decode cX8_command 311 = .ok (.iload_n 2, 1) := by decide +kernel
theorem dX8_command_312 : decode cX8_command 312 = .ok (.bipush 10, 2) := by decide +kernel
theorem dX8_command_314 : decode cX8_command 314 = .ok (.if_icmp .ge 18, 3) := by decide +kernel
theorem dX8_command_317 : decode cX8_command 317 = .ok (.aload_n 0, 1) := by decide +kernel
theorem dX8_command_318 : decode cX8_command 318 = .ok (.getfield 16, 3) := by decide +kernel
theorem dX8_command_321 : decode cX8_command 321 = .ok (.invokestatic 199, 3) := by decide +kernel
theorem dX8_command_324 : decode cX8_command 324 = .ok (.iload_n 2, 1) := by decide +kernel
end
section
theorem dX8_command_325 : decode cX8_command 325 = .ok (.if_icmp .gt 7, 3) := by decide +kernel
theorem dX8_command_328 : decode cX8_command 328 = .ok (.iconst 1, 1) := by decide +kernel
theorem dX8_command_329 : decode cX8_command 329 = .ok (.goto 4, 3) := by decide +kernel
theorem dX8_command_332 : decode cX8_command 332 = .ok (.iconst 0, 1) := by decide +kernel
theorem dX8_command_333 : decode cX8_command 333 = .ok (.ireturn, 1) := by decide +kernel
theorem dX8_command_334 : decode cX8_command 334 = .ok (.iconst 0, 1) := by decide +kernel
theorem dX8_command_335 : decode cX8_command 335 = .ok (.ireturn, 1) := by decide +kernel
theorem dX8_runScript_0 : decode cX8_runScript 0 = .ok (.lconst 1, 1) := by decide +kernel
theorem dX8_runScript_1 : decode cX8_runScript 1 = .ok (.lstore 4, 2) := by decide +kernel
theorem dX8_runScript_3 : decode cX8_runScript 3 = .ok (.iconst 0, 1) := by decide +kernel
theorem dX8_runScript_4 : decode cX8_runScript 4 = .ok (.istore 6, 2) := by decide +kernel
theorem dX8_runScript_6 : decode cX8_runScript 6 = .ok (.iload 6, 2) := by decide +kernel
theorem dX8_runScript_8 : decode cX8_runScript 8 = .ok (.iload_n 1, 1) := by decide +kernel
theorem dX8_runScript_9 : decode cX8_runScript 9 = .ok (.if_icmp .ge 23, 3) := by decide +kernel
theorem dX8_runScript_12 : decode cX8_runScript 12 = .ok (.iload 6, 2) := by decide +kernel
theorem dX8_runScript_14 : decode cX8_runScript 14 = .ok (.iconst 3, 1) := by decide +kernel
theorem dX8_runScript_15 : decode cX8_runScript 15 = .ok (.if_icmp .ge 17, 3) := by decide +kernel
theorem dX8_runScript_18 : decode cX8_runScript 18 = .ok (.lload 4, 2) := by decide +kernel
theorem dX8_runScript_20 : decode cX8_runScript 20 = .ok (.ldc2_w 205, 3) := by decide +kernel
theorem dX8_runScript_23 : decode cX8_runScript 23 = .ok (.lmul, 1) := by decide +kernel
theorem dX8_runScript_24 : decode cX8_runScript 24 = .ok (.lstore 4, 2) := by decide +kernel
theorem dX8_runScript_26 : decode cX8_runScript 26 = .ok (.iinc 6 1, 3) := by decide +kernel
theorem dX8_runScript_29 : decode cX8_runScript 29 = .ok (.goto (-23), 3) := by decide +kernel
theorem dX8_runScript_32 : decode cX8_runScript 32 = .ok (.aload_n 0, 1) := by decide +kernel
theorem dX8_runScript_33 : decode cX8_runScript 33 = .ok (.iload_n 1, 1) := by decide +kernel
theorem dX8_runScript_34 : decode cX8_runScript 34 = .ok (.i2l, 1) := by decide +kernel
theorem dX8_runScript_35 : decode cX8_runScript 35 = .ok (.lconst 1, 1) := by decide +kernel
theorem dX8_runScript_36 : decode cX8_runScript 36 = .ok (.ldc2_w 47, 3) := by decide +kernel
theorem dX8_runScript_39 : decode cX8_runScript 39 = .ok (.invokestatic 43, 3) := by decide +kernel
theorem dX8_runScript_42 : decode cX8_runScript 42 = .ok (.ifCond .eq 19, 3) := by decide +kernel
theorem dX8_runScript_45 : decode cX8_runScript 45 = .ok (.lload_n 2, 1) := by decide +kernel
theorem dX8_runScript_46 : decode cX8_runScript 46 = .ok (.lconst 0, 1) := by decide +kernel
theorem dX8_runScript_47 : decode cX8_runScript 47 = .ok (.lload 4, 2) := by decide +kernel
theorem dX8_runScript_49 : decode cX8_runScript 49 = .ok (.lconst 1, 1) := by decide +kernel
theorem dX8_runScript_50 : decode cX8_runScript 50 = .ok (.lsub, 1) := by decide +kernel
theorem dX8_runScript_51 : decode cX8_runScript 51 = .ok (.invokestatic 43, 3) := by decide +kernel
theorem dX8_runScript_54 : decode cX8_runScript 54 = .ok (.ifCond .eq 7, 3) := by decide +kernel
theorem dX8_runScript_57 : decode cX8_runScript 57 = .ok (.iconst 0, 1) := by decide +kernel
theorem dX8_runScript_58 : decode cX8_runScript 58 = .ok (.goto 4, 3) := by decide +kernel
theorem dX8_runScript_61 : decode cX8_runScript 61 = .ok (.iconst 1, 1) := by decide +kernel
theorem dX8_runScript_62 : decode cX8_runScript 62 = .ok (.invokevirtual 102, 3) := by decide +kernel
theorem dX8_runScript_65 : decode cX8_runScript 65 = .ok (.ifCond .eq 5, 3) := by decide +kernel
theorem dX8_runScript_68 : decode cX8_runScript 68 = .ok (.iconst 0, 1) := by decide +kernel
theorem dX8_runScript_69 : decode cX8_runScript 69 = .ok (.ireturn, 1) := by decide +kernel
theorem dX8_runScript_70 : decode cX8_runScript 70 = .ok (.aload_n 0, 1) := by decide +kernel
theorem dX8_runScript_71 : decode cX8_runScript 71 = .ok (.getfield 13, 3) := by decide +kernel
theorem dX8_runScript_74 : decode cX8_runScript 74 = .ok (.iconst 0, 1) := by decide +kernel
theorem dX8_runScript_75 : decode cX8_runScript 75 = .ok (.aload_n 0, 1) := by decide +kernel
theorem dX8_runScript_76 : decode cX8_runScript 76 = .ok (.getfield 16, 3) := by decide +kernel
theorem dX8_runScript_79 : decode cX8_runScript 79 = .ok (.iconst 0, 1) := by decide +kernel
theorem dX8_runScript_80 : decode cX8_runScript 80 = .ok (.invokestatic 154, 3) := by decide +kernel
theorem dX8_runScript_83 : decode cX8_runScript 83 = .ok (.iconst 0, 1) := by decide +kernel
theorem dX8_runScript_84 : decode cX8_runScript 84 = .ok (.istore 6, 2) := by decide +kernel
theorem dX8_runScript_86 : decode cX8_runScript 86 = .ok (.iload 6, 2) := by decide +kernel
theorem dX8_runScript_88 : decode cX8_runScript 88 = .ok (.iload_n 1, 1) := by decide +kernel
theorem dX8_runScript_89 : decode cX8_runScript 89 = .ok (.if_icmp .ge 50, 3) := by decide +kernel
theorem dX8_runScript_92 : decode cX8_runScript 92 = .ok (.lload 4, 2) := by decide +kernel
theorem dX8_runScript_94 : decode cX8_runScript 94 = .ok (.ldc2_w 205, 3) := by decide +kernel
theorem dX8_runScript_97 : decode cX8_runScript 97 = .ok (.ldiv, 1) := by decide +kernel
theorem dX8_runScript_98 : decode cX8_runScript 98 = .ok (.lstore 4, 2) := by decide +kernel
theorem dX8_runScript_100 : decode cX8_runScript 100 = .ok (.lload_n 2, 1) := by decide +kernel
theorem dX8_runScript_101 : decode cX8_runScript 101 = .ok (.lload 4, 2) := by decide +kernel
theorem dX8_runScript_103 : decode cX8_runScript 103 = .ok (.ldiv, 1) := by decide +kernel
theorem dX8_runScript_104 : decode cX8_runScript 104 = .ok (.ldc2_w 205, 3) := by decide +kernel
theorem dX8_runScript_107 : decode cX8_runScript 107 = .ok (.lrem, 1) := by decide +kernel
theorem dX8_runScript_108 : decode cX8_runScript 108 = .ok (.l2i, 1) := by decide +kernel
theorem dX8_runScript_109 : decode cX8_runScript 109 = .ok (.istore 7, 2) := by decide +kernel
theorem dX8_runScript_111 : decode cX8_runScript 111 = .ok (.aload_n 0, 1) := by decide +kernel
theorem dX8_runScript_112 : decode cX8_runScript 112 = .ok (.iload 7, 2) := by decide +kernel
theorem dX8_runScript_114 : decode cX8_runScript 114 = .ok (.sipush 10000, 3) := by decide +kernel
theorem dX8_runScript_117 : decode cX8_runScript 117 = .ok (.idiv, 1) := by decide +kernel
theorem dX8_runScript_118 : decode cX8_runScript 118 = .ok (.iload 7, 2) := by decide +kernel
theorem dX8_runScript_120 : decode cX8_runScript 120 = .ok (.sipush 10000, 3) := by decide +kernel
theorem dX8_runScript_123 : decode cX8_runScript 123 = .ok (.irem, 1) := by decide +kernel
theorem dX8_runScript_124 : decode cX8_runScript 124 = .ok (.invokevirtual 207, 3) := by decide +kernel
theorem dX8_runScript_127 : decode cX8_runScript 127 = .ok (.ifCond .ne 6, 3) := by decide +kernel
theorem dX8_runScript_130 : decode cX8_runScript 130 = .ok (.iload 6, 2) := by decide +kernel
theorem dX8_runScript_132 : decode cX8_runScript 132 = .ok (.ireturn, 1) := by decide +kernel
theorem dX8_runScript_133 : decode cX8_runScript 133 = .ok (.iinc 6 1, 3) := by decide +kernel
theorem dX8_runScript_136 : decode cX8_runScript 136 = .ok (.goto (-50), 3) := by decide +kernel
theorem dX8_runScript_139 : decode cX8_runScript 139 = .ok (.iconst (-1), 1) := by decide +kernel
theorem dX8_runScript_140 : decode cX8_runScript 140 = .ok (.ireturn, 1) := by decide +kernel
theorem dX8_turn_0 : decode cX8_turn 0 = .ok (.iload_n 1, 1) := by decide +kernel
theorem dX8_turn_1 : decode cX8_turn 1 = .ok (.bipush 8, 2) := by decide +kernel
theorem dX8_turn_3 : decode cX8_turn 3 = .ok (.idiv, 1) := by decide +kernel
theorem dX8_turn_4 : decode cX8_turn 4 = .ok (.istore_n 2, 1) := by decide +kernel
theorem dX8_turn_5 : decode cX8_turn 5 = .ok (.iload_n 1, 1) := by decide +kernel
theorem dX8_turn_6 : decode cX8_turn 6 = .ok (.bipush 8, 2) := by decide +kernel
theorem dX8_turn_8 : decode cX8_turn 8 = .ok (.irem, 1) := by decide +kernel
theorem dX8_turn_9 : decode cX8_turn 9 = .ok (.istore_n 3, 1) := by decide +kernel
theorem dX8_turn_10 : decode cX8_turn 10 = .ok (.iconst 1, 1) := by decide +kernel
theorem dX8_turn_11 : decode cX8_turn 11 = .ok (.aload_n 0, 1) := by decide +kernel
theorem dX8_turn_12 : decode cX8_turn 12 = .ok (.iconst 0, 1) := by decide +kernel
theorem dX8_turn_13 : decode cX8_turn 13 = .ok (.iaload, 1) := by decide +kernel
theorem dX8_turn_14 : decode cX8_turn 14 = .ok (.ishl, 1) := by decide +kernel
theorem dX8_turn_15 : decode cX8_turn 15 = .ok (.iconst 1, 1) := by decide +kernel
theorem dX8_turn_16 : decode cX8_turn 16 = .ok (.isub, 1) := by decide +kernel
theorem dX8_turn_17 : decode cX8_turn 17 = .ok (.istore 4, 2) := by decide +kernel
theorem dX8_turn_19 : decode cX8_turn 19 = .ok (.iload_n 2, 1) := by decide +kernel
theorem dX8_turn_20 : decode cX8_turn 20 = .ok (.sipush 4096, 3) := by decide +kernel
theorem dX8_turn_23 : decode cX8_turn 23 = .ok (.irem, 1) := by decide +kernel
theorem dX8_turn_24 : decode cX8_turn 24 = .ok (.iload 4, 2) := by decide +kernel
theorem dX8_turn_26 : decode cX8_turn 26 = .ok (.iand, 1) := by decide +kernel
theorem dX8_turn_27 : decode cX8_turn 27 = .ok (.istore 5, 2) := by decide +kernel
theorem dX8_turn_29 : decode cX8_turn 29 = .ok (.iload_n 2, 1) := by decide +kernel
theorem dX8_turn_30 : decode cX8_turn 30 = .ok (.sipush 4096, 3) := by decide +kernel
theorem dX8_turn_33 : decode cX8_turn 33 = .ok (.idiv, 1) := by decide +kernel
theorem dX8_turn_34 : decode cX8_turn 34 = .ok (.sipush 4096, 3) := by decide +kernel
theorem dX8_turn_37 : decode cX8_turn 37 = .ok (.irem, 1) := by decide +kernel
theorem dX8_turn_38 : decode cX8_turn 38 = .ok (.iload 4, 2) := by decide +kernel
theorem dX8_turn_40 : decode cX8_turn 40 = .ok (.iand, 1) := by decide +kernel
theorem dX8_turn_41 : decode cX8_turn 41 = .ok (.iload 5, 2) := by decide +kernel
theorem dX8_turn_43 : decode cX8_turn 43 = .ok (.iconst (-1), 1) := by decide +kernel
theorem dX8_turn_44 : decode cX8_turn 44 = .ok (.ixor, 1) := by decide +kernel
theorem dX8_turn_45 : decode cX8_turn 45 = .ok (.iand, 1) := by decide +kernel
theorem dX8_turn_46 : decode cX8_turn 46 = .ok (.istore 6, 2) := by decide +kernel
theorem dX8_turn_48 : decode cX8_turn 48 = .ok (.iload_n 3, 1) := by decide +kernel
theorem dX8_turn_49 : decode cX8_turn 49 = .ok (.ifCond .ne 48, 3) := by decide +kernel
theorem dX8_turn_52 : decode cX8_turn 52 = .ok (.aload_n 0, 1) := by decide +kernel
theorem dX8_turn_53 : decode cX8_turn 53 = .ok (.iload_n 2, 1) := by decide +kernel
theorem dX8_turn_54 : decode cX8_turn 54 = .ok (.iconst 3, 1) := by decide +kernel
theorem dX8_turn_55 : decode cX8_turn 55 = .ok (.irem, 1) := by decide +kernel
theorem dX8_turn_56 : decode cX8_turn 56 = .ok (.ifCond .ne 12, 3) := by decide +kernel
theorem dX8_turn_59 : decode cX8_turn 59 = .ok (.iconst 1, 1) := by decide +kernel
theorem dX8_turn_60 : decode cX8_turn 60 = .ok (.iload_n 2, 1) := by decide +kernel
theorem dX8_turn_61 : decode cX8_turn 61 = .ok (.bipush 20, 2) := by decide +kernel
theorem dX8_turn_63 : decode cX8_turn 63 = .ok (.irem, 1) := by decide +kernel
theorem dX8_turn_64 : decode cX8_turn 64 = .ok (.iadd, 1) := by decide +kernel
theorem dX8_turn_65 : decode cX8_turn 65 = .ok (.goto 5, 3) := by decide +kernel
theorem dX8_turn_68 : decode cX8_turn 68 = .ok (.bipush 10, 2) := by decide +kernel
theorem dX8_turn_70 : decode cX8_turn 70 = .ok (.iload_n 2, 1) := by decide +kernel
theorem dX8_turn_71 : decode cX8_turn 71 = .ok (.iconst 3, 1) := by decide +kernel
theorem dX8_turn_72 : decode cX8_turn 72 = .ok (.irem, 1) := by decide +kernel
theorem dX8_turn_73 : decode cX8_turn 73 = .ok (.ifCond .ne 15, 3) := by decide +kernel
theorem dX8_turn_76 : decode cX8_turn 76 = .ok (.iconst 1, 1) := by decide +kernel
theorem dX8_turn_77 : decode cX8_turn 77 = .ok (.iload_n 2, 1) := by decide +kernel
theorem dX8_turn_78 : decode cX8_turn 78 = .ok (.bipush 32, 2) := by decide +kernel
theorem dX8_turn_80 : decode cX8_turn 80 = .ok (.idiv, 1) := by decide +kernel
theorem dX8_turn_81 : decode cX8_turn 81 = .ok (.bipush 20, 2) := by decide +kernel
theorem dX8_turn_83 : decode cX8_turn 83 = .ok (.irem, 1) := by decide +kernel
theorem dX8_turn_84 : decode cX8_turn 84 = .ok (.iadd, 1) := by decide +kernel
theorem dX8_turn_85 : decode cX8_turn 85 = .ok (.goto 5, 3) := by decide +kernel
theorem dX8_turn_88 : decode cX8_turn 88 = .ok (.bipush 10, 2) := by decide +kernel
theorem dX8_turn_90 : decode cX8_turn 90 = .ok (.invokestatic 138, 3) := by decide +kernel
theorem dX8_turn_93 : decode cX8_turn 93 = .ok (.pop, 1) := by decide +kernel
theorem dX8_turn_94 : decode cX8_turn 94 = .ok (.goto 85, 3) := by decide +kernel
theorem dX8_turn_97 : decode cX8_turn 97 = .ok (.iload_n 3, 1) := by decide +kernel
theorem dX8_turn_98 : decode cX8_turn 98 = .ok (.iconst 1, 1) := by decide +kernel
theorem dX8_turn_99 : decode cX8_turn 99 = .ok (.if_icmp .ne 17, 3) := by decide +kernel
theorem dX8_turn_102 : decode cX8_turn 102 = .ok (.aload_n 0, 1) := by decide +kernel
theorem dX8_turn_103 : decode cX8_turn 103 = .ok (.iconst 4, 1) := by decide +kernel
theorem dX8_turn_104 : decode cX8_turn 104 = .ok (.iaload, 1) := by decide +kernel
theorem dX8_turn_105 : decode cX8_turn 105 = .ok (.ifCond .le 74, 3) := by decide +kernel
theorem dX8_turn_108 : decode cX8_turn 108 = .ok (.aload_n 0, 1) := by decide +kernel
theorem dX8_turn_109 : decode cX8_turn 109 = .ok (.invokestatic 190, 3) := by decide +kernel
theorem dX8_turn_112 : decode cX8_turn 112 = .ok (.pop, 1) := by decide +kernel
theorem dX8_turn_113 : decode cX8_turn 113 = .ok (.goto 66, 3) := by decide +kernel
theorem dX8_turn_116 : decode cX8_turn 116 = .ok (.iload_n 3, 1) := by decide +kernel
theorem dX8_turn_117 : decode cX8_turn 117 = .ok (.iconst 2, 1) := by decide +kernel
theorem dX8_turn_118 : decode cX8_turn 118 = .ok (.if_icmp .ne 41, 3) := by decide +kernel
theorem dX8_turn_121 : decode cX8_turn 121 = .ok (.aload_n 0, 1) := by decide +kernel
theorem dX8_turn_122 : decode cX8_turn 122 = .ok (.iload_n 2, 1) := by decide +kernel
theorem dX8_turn_123 : decode cX8_turn 123 = .ok (.bipush 12, 2) := by decide +kernel
theorem dX8_turn_125 : decode cX8_turn 125 = .ok (.irem, 1) := by decide +kernel
theorem dX8_turn_126 : decode cX8_turn 126 = .ok (.invokestatic 163, 3) := by decide +kernel
theorem dX8_turn_129 : decode cX8_turn 129 = .ok (.ifCond .eq 50, 3) := by decide +kernel
theorem dX8_turn_132 : decode cX8_turn 132 = .ok (.aload_n 0, 1) := by decide +kernel
theorem dX8_turn_133 : decode cX8_turn 133 = .ok (.iload_n 2, 1) := by decide +kernel
theorem dX8_turn_134 : decode cX8_turn 134 = .ok (.bipush 12, 2) := by decide +kernel
theorem dX8_turn_136 : decode cX8_turn 136 = .ok (.irem, 1) := by decide +kernel
theorem dX8_turn_137 : decode cX8_turn 137 = .ok (.iload_n 2, 1) := by decide +kernel
theorem dX8_turn_138 : decode cX8_turn 138 = .ok (.bipush 16, 2) := by decide +kernel
theorem dX8_turn_140 : decode cX8_turn 140 = .ok (.idiv, 1) := by decide +kernel
theorem dX8_turn_141 : decode cX8_turn 141 = .ok (.iconst 2, 1) := by decide +kernel
theorem dX8_turn_142 : decode cX8_turn 142 = .ok (.irem, 1) := by decide +kernel
theorem dX8_turn_143 : decode cX8_turn 143 = .ok (.iconst 1, 1) := by decide +kernel
theorem dX8_turn_144 : decode cX8_turn 144 = .ok (.if_icmp .ne 7, 3) := by decide +kernel
theorem dX8_turn_147 : decode cX8_turn 147 = .ok (.iconst 1, 1) := by decide +kernel
theorem dX8_turn_148 : decode cX8_turn 148 = .ok (.goto 4, 3) := by decide +kernel
theorem dX8_turn_151 : decode cX8_turn 151 = .ok (.iconst 0, 1) := by decide +kernel
theorem dX8_turn_152 : decode cX8_turn 152 = .ok (.invokestatic 184, 3) := by decide +kernel
theorem dX8_turn_155 : decode cX8_turn 155 = .ok (.pop, 1) := by decide +kernel
theorem dX8_turn_156 : decode cX8_turn 156 = .ok (.goto 23, 3) := by decide +kernel
theorem dX8_turn_159 : decode cX8_turn 159 = .ok (.aload_n 0, 1) := by decide +kernel
theorem dX8_turn_160 : decode cX8_turn 160 = .ok (.iload 5, 2) := by decide +kernel
theorem dX8_turn_162 : decode cX8_turn 162 = .ok (.iload 6, 2) := by decide +kernel
theorem dX8_turn_164 : decode cX8_turn 164 = .ok (.invokestatic 123, 3) := by decide +kernel
theorem dX8_turn_167 : decode cX8_turn 167 = .ok (.ifCond .eq 12, 3) := by decide +kernel
theorem dX8_turn_170 : decode cX8_turn 170 = .ok (.aload_n 0, 1) := by decide +kernel
theorem dX8_turn_171 : decode cX8_turn 171 = .ok (.iload 5, 2) := by decide +kernel
theorem dX8_turn_173 : decode cX8_turn 173 = .ok (.iload 6, 2) := by decide +kernel
theorem dX8_turn_175 : decode cX8_turn 175 = .ok (.invokestatic 126, 3) := by decide +kernel
theorem dX8_turn_178 : decode cX8_turn 178 = .ok (.pop, 1) := by decide +kernel
theorem dX8_turn_179 : decode cX8_turn 179 = .ok (.return_, 1) := by decide +kernel
theorem dX8_simulate_0 : decode cX8_simulate 0 = .ok (.aload_n 0, 1) := by decide +kernel
theorem dX8_simulate_1 : decode cX8_simulate 1 = .ok (.iload_n 3, 1) := by decide +kernel
theorem dX8_simulate_2 : decode cX8_simulate 2 = .ok (.i2l, 1) := by decide +kernel
theorem dX8_simulate_3 : decode cX8_simulate 3 = .ok (.lconst 1, 1) := by decide +kernel
theorem dX8_simulate_4 : decode cX8_simulate 4 = .ok (.ldc2_w 210, 3) := by decide +kernel
theorem dX8_simulate_7 : decode cX8_simulate 7 = .ok (.invokestatic 43, 3) := by decide +kernel
theorem dX8_simulate_10 : decode cX8_simulate 10 = .ok (.ifCond .eq 7, 3) := by decide +kernel
theorem dX8_simulate_13 : decode cX8_simulate 13 = .ok (.iconst 0, 1) := by decide +kernel
theorem dX8_simulate_14 : decode cX8_simulate 14 = .ok (.goto 4, 3) := by decide +kernel
theorem dX8_simulate_17 : decode cX8_simulate 17 = .ok (.iconst 1, 1) := by decide +kernel
theorem dX8_simulate_18 : decode cX8_simulate 18 = .ok (.invokevirtual 102, 3) := by decide +kernel
theorem dX8_simulate_21 : decode cX8_simulate 21 = .ok (.ifCond .eq 5, 3) := by decide +kernel
theorem dX8_simulate_24 : decode cX8_simulate 24 = .ok (.iconst 0, 1) := by decide +kernel
theorem dX8_simulate_25 : decode cX8_simulate 25 = .ok (.ireturn, 1) := by decide +kernel
theorem dX8_simulate_26 : decode cX8_simulate 26 = .ok (.aload_n 0, 1) := by decide +kernel
theorem dX8_simulate_27 : decode cX8_simulate 27 = .ok (.getfield 13, 3) := by decide +kernel
theorem dX8_simulate_30 : decode cX8_simulate 30 = .ok (.iconst 0, 1) := by decide +kernel
theorem dX8_simulate_31 : decode cX8_simulate 31 = .ok (.aload_n 0, 1) := by decide +kernel
theorem dX8_simulate_32 : decode cX8_simulate 32 = .ok (.getfield 16, 3) := by decide +kernel
theorem dX8_simulate_35 : decode cX8_simulate 35 = .ok (.iconst 0, 1) := by decide +kernel
theorem dX8_simulate_36 : decode cX8_simulate 36 = .ok (.invokestatic 154, 3) := by decide +kernel
theorem dX8_simulate_39 : decode cX8_simulate 39 = .ok (.lload_n 1, 1) := by decide +kernel
theorem dX8_simulate_40 : decode cX8_simulate 40 = .ok (.lstore 4, 2) := by decide +kernel
theorem dX8_simulate_42 : decode cX8_simulate 42 = .ok (.iconst 0, 1) := by decide +kernel
theorem dX8_simulate_43 : decode cX8_simulate 43 = .ok (.istore 6, 2) := by decide +kernel
theorem dX8_simulate_45 : decode cX8_simulate 45 = .ok (.iload 6, 2) := by decide +kernel
theorem dX8_simulate_47 : decode cX8_simulate 47 = .ok (.iload_n 3, 1) := by decide +kernel
theorem dX8_simulate_48 : decode cX8_simulate 48 = .ok (.if_icmp .ge 34, 3) := by decide +kernel
theorem dX8_simulate_51 : decode cX8_simulate 51 = .ok (.lload 4, 2) := by decide +kernel
theorem dX8_simulate_53 : decode cX8_simulate 53 = .ok (.ldc2_w 212, 3) := by decide +kernel
theorem dX8_simulate_56 : decode cX8_simulate 56 = .ok (.lmul, 1) := by decide +kernel
theorem dX8_simulate_57 : decode cX8_simulate 57 = .ok (.ldc2_w 214, 3) := by decide +kernel
theorem dX8_simulate_60 : decode cX8_simulate 60 = .ok (.ladd, 1) := by decide +kernel
theorem dX8_simulate_61 : decode cX8_simulate 61 = .ok (.lstore 4, 2) := by decide +kernel
theorem dX8_simulate_63 : decode cX8_simulate 63 = .ok (.aload_n 0, 1) := by decide +kernel
theorem dX8_simulate_64 : decode cX8_simulate 64 = .ok (.getfield 16, 3) := by decide +kernel
theorem dX8_simulate_67 : decode cX8_simulate 67 = .ok (.lload 4, 2) := by decide +kernel
theorem dX8_simulate_69 : decode cX8_simulate 69 = .ok (.bipush 33, 2) := by decide +kernel
theorem dX8_simulate_71 : decode cX8_simulate 71 = .ok (.lushr, 1) := by decide +kernel
theorem dX8_simulate_72 : decode cX8_simulate 72 = .ok (.l2i, 1) := by decide +kernel
theorem dX8_simulate_73 : decode cX8_simulate 73 = .ok (.invokestatic 216, 3) := by decide +kernel
theorem dX8_simulate_76 : decode cX8_simulate 76 = .ok (.iinc 6 1, 3) := by decide +kernel
theorem dX8_simulate_79 : decode cX8_simulate 79 = .ok (.goto (-34), 3) := by decide +kernel
theorem dX8_simulate_82 : decode cX8_simulate 82 = .ok (.sipush 1000, 3) := by decide +kernel
theorem dX8_simulate_85 : decode cX8_simulate 85 = .ok (.aload_n 0, 1) := by decide +kernel
theorem dX8_simulate_86 : decode cX8_simulate 86 = .ok (.getfield 16, 3) := by decide +kernel
theorem dX8_simulate_89 : decode cX8_simulate 89 = .ok (.iconst 4, 1) := by decide +kernel
theorem dX8_simulate_90 : decode cX8_simulate 90 = .ok (.iaload, 1) := by decide +kernel
theorem dX8_simulate_91 : decode cX8_simulate 91 = .ok (.imul, 1) := by decide +kernel
theorem dX8_simulate_92 : decode cX8_simulate 92 = .ok (.aload_n 0, 1) := by decide +kernel
theorem dX8_simulate_93 : decode cX8_simulate 93 = .ok (.getfield 16, 3) := by decide +kernel
theorem dX8_simulate_96 : decode cX8_simulate 96 = .ok (.invokestatic 86, 3) := by decide +kernel
theorem dX8_simulate_99 : decode cX8_simulate 99 = .ok (.iadd, 1) := by decide +kernel
theorem dX8_simulate_100 : decode cX8_simulate 100 = .ok (.ireturn, 1) := by decide +kernel
theorem dX8_save_0 : decode cX8_save 0 = .ok (.aload_n 0, 1) := by decide +kernel
theorem dX8_save_1 : decode cX8_save 1 = .ok (.iload_n 1, 1) := by decide +kernel
theorem dX8_save_2 : decode cX8_save 2 = .ok (.i2l, 1) := by decide +kernel
theorem dX8_save_3 : decode cX8_save 3 = .ok (.lconst 0, 1) := by decide +kernel
theorem dX8_save_4 : decode cX8_save 4 = .ok (.lconst 1, 1) := by decide +kernel
theorem dX8_save_5 : decode cX8_save 5 = .ok (.invokestatic 43, 3) := by decide +kernel
theorem dX8_save_8 : decode cX8_save 8 = .ok (.ifCond .eq 7, 3) := by decide +kernel
theorem dX8_save_11 : decode cX8_save 11 = .ok (.iconst 0, 1) := by decide +kernel
theorem dX8_save_12 : decode cX8_save 12 = .ok (.goto 4, 3) := by decide +kernel
theorem dX8_save_15 : decode cX8_save 15 = .ok (.iconst 1, 1) := by decide +kernel
theorem dX8_save_16 : decode cX8_save 16 = .ok (.invokevirtual 102, 3) := by decide +kernel
theorem dX8_save_19 : decode cX8_save 19 = .ok (.ifCond .eq 5, 3) := by decide +kernel
theorem dX8_save_22 : decode cX8_save 22 = .ok (.iconst 0, 1) := by decide +kernel
theorem dX8_save_23 : decode cX8_save 23 = .ok (.ireturn, 1) := by decide +kernel
theorem dX8_save_24 : decode cX8_save 24 = .ok (.aload_n 0, 1) := by decide +kernel
theorem dX8_save_25 : decode cX8_save 25 = .ok (.getfield 13, 3) := by decide +kernel
theorem dX8_save_28 : decode cX8_save 28 = .ok (.iconst 0, 1) := by decide +kernel
theorem dX8_save_29 : decode cX8_save 29 = .ok (.aload_n 0, 1) := by decide +kernel
theorem dX8_save_30 : decode cX8_save 30 = .ok (.getfield 22, 3) := by decide +kernel
theorem dX8_save_33 : decode cX8_save 33 = .ok (.bipush 107, 2) := by decide +kernel
theorem dX8_save_35 : decode cX8_save 35 = .ok (.iload_n 1, 1) := by decide +kernel
theorem dX8_save_36 : decode cX8_save 36 = .ok (.imul, 1) := by decide +kernel
theorem dX8_save_37 : decode cX8_save 37 = .ok (.invokestatic 154, 3) := by decide +kernel
theorem dX8_save_40 : decode cX8_save 40 = .ok (.aload_n 0, 1) := by decide +kernel
theorem dX8_save_41 : decode cX8_save 41 = .ok (.getfield 25, 3) := by decide +kernel
theorem dX8_save_44 : decode cX8_save 44 = .ok (.iload_n 1, 1) := by decide +kernel
theorem dX8_save_45 : decode cX8_save 45 = .ok (.iconst 1, 1) := by decide +kernel
theorem dX8_save_46 : decode cX8_save 46 = .ok (.bastore, 1) := by decide +kernel
theorem dX8_save_47 : decode cX8_save 47 = .ok (.aload_n 0, 1) := by decide +kernel
theorem dX8_save_48 : decode cX8_save 48 = .ok (.getfield 13, 3) := by decide +kernel
theorem dX8_save_51 : decode cX8_save 51 = .ok (.invokestatic 86, 3) := by decide +kernel
theorem dX8_save_54 : decode cX8_save 54 = .ok (.ireturn, 1) := by decide +kernel
theorem dX8_restore_0 : decode cX8_restore 0 = .ok (.aload_n 0, 1) := by decide +kernel
theorem dX8_restore_1 : decode cX8_restore 1 = .ok (.iload_n 1, 1) := by decide +kernel
theorem dX8_restore_2 : decode cX8_restore 2 = .ok (.i2l, 1) := by decide +kernel
theorem dX8_restore_3 : decode cX8_restore 3 = .ok (.lconst 0, 1) := by decide +kernel
theorem dX8_restore_4 : decode cX8_restore 4 = .ok (.lconst 1, 1) := by decide +kernel
theorem dX8_restore_5 : decode cX8_restore 5 = .ok (.invokestatic 43, 3) := by decide +kernel
theorem dX8_restore_8 : decode cX8_restore 8 = .ok (.ifCond .ne 7, 3) := by decide +kernel
theorem dX8_restore_11 : decode cX8_restore 11 = .ok (.iconst 1, 1) := by decide +kernel
theorem dX8_restore_12 : decode cX8_restore 12 = .ok (.goto 17, 3) := by decide +kernel
theorem dX8_restore_15 : decode cX8_restore 15 = .ok (.aload_n 0, 1) := by decide +kernel
theorem dX8_restore_16 : decode cX8_restore 16 = .ok (.getfield 25, 3) := by decide +kernel
theorem dX8_restore_19 : decode cX8_restore 19 = .ok (.iload_n 1, 1) := by decide +kernel
theorem dX8_restore_20 : decode cX8_restore 20 = .ok (.baload, 1) := by decide +kernel
theorem dX8_restore_21 : decode cX8_restore 21 = .ok (.ifCond .ne 7, 3) := by decide +kernel
theorem dX8_restore_24 : decode cX8_restore 24 = .ok (.iconst 2, 1) := by decide +kernel
theorem dX8_restore_25 : decode cX8_restore 25 = .ok (.goto 4, 3) := by decide +kernel
theorem dX8_restore_28 : decode cX8_restore 28 = .ok (.iconst 0, 1) := by decide +kernel
theorem dX8_restore_29 : decode cX8_restore 29 = .ok (.invokevirtual 102, 3) := by decide +kernel
theorem dX8_restore_32 : decode cX8_restore 32 = .ok (.ifCond .eq 5, 3) := by decide +kernel
theorem dX8_restore_35 : decode cX8_restore 35 = .ok (.iconst 0, 1) := by decide +kernel
theorem dX8_restore_36 : decode cX8_restore 36 = .ok (.ireturn, 1) := by decide +kernel
theorem dX8_restore_37 : decode cX8_restore 37 = .ok (.aload_n 0, 1) := by decide +kernel
theorem dX8_restore_38 : decode cX8_restore 38 = .ok (.getfield 22, 3) := by decide +kernel
theorem dX8_restore_41 : decode cX8_restore 41 = .ok (.bipush 107, 2) := by decide +kernel
theorem dX8_restore_43 : decode cX8_restore 43 = .ok (.iload_n 1, 1) := by decide +kernel
theorem dX8_restore_44 : decode cX8_restore 44 = .ok (.imul, 1) := by decide +kernel
theorem dX8_restore_45 : decode cX8_restore 45 = .ok (.aload_n 0, 1) := by decide +kernel
theorem dX8_restore_46 : decode cX8_restore 46 = .ok (.getfield 13, 3) := by decide +kernel
theorem dX8_restore_49 : decode cX8_restore 49 = .ok (.iconst 0, 1) := by decide +kernel
theorem dX8_restore_50 : decode cX8_restore 50 = .ok (.invokestatic 154, 3) := by decide +kernel
theorem dX8_restore_53 : decode cX8_restore 53 = .ok (.aload_n 0, 1) := by decide +kernel
theorem dX8_restore_54 : decode cX8_restore 54 = .ok (.iconst 0, 1) := by decide +kernel
theorem dX8_restore_55 : decode cX8_restore 55 = .ok (.putfield 158, 3) := by decide +kernel
theorem dX8_restore_58 : decode cX8_restore 58 = .ok (.aload_n 0, 1) := by decide +kernel
theorem dX8_restore_59 : decode cX8_restore 59 = .ok (.getfield 13, 3) := by decide +kernel
theorem dX8_restore_62 : decode cX8_restore 62 = .ok (.invokestatic 86, 3) := by decide +kernel
theorem dX8_restore_65 : decode cX8_restore 65 = .ok (.ireturn, 1) := by decide +kernel
theorem dJ11_isValidCodePoint_9a6ad_0 : decode cJ11_isValidCodePoint_9a6ad 0 = .ok (.iload_n 0, 1) := by decide +kernel
theorem dJ11_isValidCodePoint_9a6ad_1 : decode cJ11_isValidCodePoint_9a6ad 1 = .ok (.bipush 16, 2) := by decide +kernel
theorem dJ11_isValidCodePoint_9a6ad_3 : decode cJ11_isValidCodePoint_9a6ad 3 = .ok (.iushr, 1) := by decide +kernel
theorem dJ11_isValidCodePoint_9a6ad_4 : decode cJ11_isValidCodePoint_9a6ad 4 = .ok (.istore_n 1, 1) := by decide +kernel
theorem dJ11_isValidCodePoint_9a6ad_5 : decode cJ11_isValidCodePoint_9a6ad 5 = .ok (.iload_n 1, 1) := by decide +kernel
theorem dJ11_isValidCodePoint_9a6ad_6 : decode cJ11_isValidCodePoint_9a6ad 6 = .ok (.bipush 17, 2) := by decide +kernel
theorem dJ11_isValidCodePoint_9a6ad_8 : decode cJ11_isValidCodePoint_9a6ad 8 = .ok (.if_icmp .ge 7, 3) := by decide +kernel
theorem dJ11_isValidCodePoint_9a6ad_11 : decode cJ11_isValidCodePoint_9a6ad 11 = .ok (.iconst 1, 1) := by decide +kernel
theorem dJ11_isValidCodePoint_9a6ad_12 : decode cJ11_isValidCodePoint_9a6ad 12 = .ok (.goto 4, 3) := by decide +kernel
theorem dJ11_isValidCodePoint_9a6ad_15 : decode cJ11_isValidCodePoint_9a6ad 15 = .ok (.iconst 0, 1) := by decide +kernel
theorem dJ11_isValidCodePoint_9a6ad_16 : decode cJ11_isValidCodePoint_9a6ad 16 = .ok (.ireturn, 1) := by decide +kernel
theorem dJ11_highSurrogate_5068e_0 : decode cJ11_highSurrogate_5068e 0 = .ok (.iload_n 0, 1) := by decide +kernel
theorem dJ11_highSurrogate_5068e_1 : decode cJ11_highSurrogate_5068e 1 = .ok (.bipush 10, 2) := by decide +kernel
theorem dJ11_highSurrogate_5068e_3 : decode cJ11_highSurrogate_5068e 3 = .ok (.iushr, 1) := by decide +kernel
theorem dJ11_highSurrogate_5068e_4 : decode cJ11_highSurrogate_5068e 4 = .ok (.ldc 110, 2) := by decide +kernel
theorem dJ11_highSurrogate_5068e_6 : decode cJ11_highSurrogate_5068e 6 = .ok (.iadd, 1) := by decide +kernel
theorem dJ11_highSurrogate_5068e_7 : decode cJ11_highSurrogate_5068e 7 = .ok (.i2c, 1) := by decide +kernel
theorem dJ11_highSurrogate_5068e_8 : decode cJ11_highSurrogate_5068e 8 = .ok (.ireturn, 1) := by decide +kernel
theorem dJ11_lowSurrogate_5068e_0 : decode cJ11_lowSurrogate_5068e 0 = .ok (.iload_n 0, 1) := by decide +kernel
theorem dJ11_lowSurrogate_5068e_1 : decode cJ11_lowSurrogate_5068e 1 = .ok (.sipush 1023, 3) := by decide +kernel
theorem dJ11_lowSurrogate_5068e_4 : decode cJ11_lowSurrogate_5068e 4 = .ok (.iand, 1) := by decide +kernel
theorem dJ11_lowSurrogate_5068e_5 : decode cJ11_lowSurrogate_5068e 5 = .ok (.ldc 76, 2) := by decide +kernel
theorem dJ11_lowSurrogate_5068e_7 : decode cJ11_lowSurrogate_5068e 7 = .ok (.iadd, 1) := by decide +kernel
theorem dJ11_lowSurrogate_5068e_8 : decode cJ11_lowSurrogate_5068e 8 = .ok (.i2c, 1) := by decide +kernel
theorem dJ11_lowSurrogate_5068e_9 : decode cJ11_lowSurrogate_5068e 9 = .ok (.ireturn, 1) := by decide +kernel
theorem dJ6_bitCount_0f7a4_0 : decode cJ6_bitCount_0f7a4 0 = .ok (.iload_n 0, 1) := by decide +kernel
theorem dJ6_bitCount_0f7a4_1 : decode cJ6_bitCount_0f7a4 1 = .ok (.iload_n 0, 1) := by decide +kernel
theorem dJ6_bitCount_0f7a4_2 : decode cJ6_bitCount_0f7a4 2 = .ok (.iconst 1, 1) := by decide +kernel
theorem dJ6_bitCount_0f7a4_3 : decode cJ6_bitCount_0f7a4 3 = .ok (.iushr, 1) := by decide +kernel
theorem dJ6_bitCount_0f7a4_4 : decode cJ6_bitCount_0f7a4 4 = .ok (.ldc_w 265, 3) := by decide +kernel
theorem dJ6_bitCount_0f7a4_7 : decode cJ6_bitCount_0f7a4 7 = .ok (.iand, 1) := by decide +kernel
theorem dJ6_bitCount_0f7a4_8 : decode cJ6_bitCount_0f7a4 8 = .ok (.isub, 1) := by decide +kernel
theorem dJ6_bitCount_0f7a4_9 : decode cJ6_bitCount_0f7a4 9 = .ok (.istore_n 0, 1) := by decide +kernel
theorem dJ6_bitCount_0f7a4_10 : decode cJ6_bitCount_0f7a4 10 = .ok (.iload_n 0, 1) := by decide +kernel
theorem dJ6_bitCount_0f7a4_11 : decode cJ6_bitCount_0f7a4 11 = .ok (.ldc_w 266, 3) := by decide +kernel
theorem dJ6_bitCount_0f7a4_14 : decode cJ6_bitCount_0f7a4 14 = .ok (.iand, 1) := by decide +kernel
theorem dJ6_bitCount_0f7a4_15 : decode cJ6_bitCount_0f7a4 15 = .ok (.iload_n 0, 1) := by decide +kernel
theorem dJ6_bitCount_0f7a4_16 : decode cJ6_bitCount_0f7a4 16 = .ok (.iconst 2, 1) := by decide +kernel
theorem dJ6_bitCount_0f7a4_17 : decode cJ6_bitCount_0f7a4 17 = .ok (.iushr, 1) := by decide +kernel
theorem dJ6_bitCount_0f7a4_18 : decode cJ6_bitCount_0f7a4 18 = .ok (.ldc_w 266, 3) := by decide +kernel
theorem dJ6_bitCount_0f7a4_21 : decode cJ6_bitCount_0f7a4 21 = .ok (.iand, 1) := by decide +kernel
theorem dJ6_bitCount_0f7a4_22 : decode cJ6_bitCount_0f7a4 22 = .ok (.iadd, 1) := by decide +kernel
theorem dJ6_bitCount_0f7a4_23 : decode cJ6_bitCount_0f7a4 23 = .ok (.istore_n 0, 1) := by decide +kernel
theorem dJ6_bitCount_0f7a4_24 : decode cJ6_bitCount_0f7a4 24 = .ok (.iload_n 0, 1) := by decide +kernel
theorem dJ6_bitCount_0f7a4_25 : decode cJ6_bitCount_0f7a4 25 = .ok (.iload_n 0, 1) := by decide +kernel
theorem dJ6_bitCount_0f7a4_26 : decode cJ6_bitCount_0f7a4 26 = .ok (.iconst 4, 1) := by decide +kernel
theorem dJ6_bitCount_0f7a4_27 : decode cJ6_bitCount_0f7a4 27 = .ok (.iushr, 1) := by decide +kernel
theorem dJ6_bitCount_0f7a4_28 : decode cJ6_bitCount_0f7a4 28 = .ok (.iadd, 1) := by decide +kernel
theorem dJ6_bitCount_0f7a4_29 : decode cJ6_bitCount_0f7a4 29 = .ok (.ldc_w 267, 3) := by decide +kernel
theorem dJ6_bitCount_0f7a4_32 : decode cJ6_bitCount_0f7a4 32 = .ok (.iand, 1) := by decide +kernel
theorem dJ6_bitCount_0f7a4_33 : decode cJ6_bitCount_0f7a4 33 = .ok (.istore_n 0, 1) := by decide +kernel
theorem dJ6_bitCount_0f7a4_34 : decode cJ6_bitCount_0f7a4 34 = .ok (.iload_n 0, 1) := by decide +kernel
theorem dJ6_bitCount_0f7a4_35 : decode cJ6_bitCount_0f7a4 35 = .ok (.iload_n 0, 1) := by decide +kernel
theorem dJ6_bitCount_0f7a4_36 : decode cJ6_bitCount_0f7a4 36 = .ok (.bipush 8, 2) := by decide +kernel
theorem dJ6_bitCount_0f7a4_38 : decode cJ6_bitCount_0f7a4 38 = .ok (.iushr, 1) := by decide +kernel
theorem dJ6_bitCount_0f7a4_39 : decode cJ6_bitCount_0f7a4 39 = .ok (.iadd, 1) := by decide +kernel
theorem dJ6_bitCount_0f7a4_40 : decode cJ6_bitCount_0f7a4 40 = .ok (.istore_n 0, 1) := by decide +kernel
theorem dJ6_bitCount_0f7a4_41 : decode cJ6_bitCount_0f7a4 41 = .ok (.iload_n 0, 1) := by decide +kernel
theorem dJ6_bitCount_0f7a4_42 : decode cJ6_bitCount_0f7a4 42 = .ok (.iload_n 0, 1) := by decide +kernel
theorem dJ6_bitCount_0f7a4_43 : decode cJ6_bitCount_0f7a4 43 = .ok (.bipush 16, 2) := by decide +kernel
theorem dJ6_bitCount_0f7a4_45 : decode cJ6_bitCount_0f7a4 45 = .ok (.iushr, 1) := by decide +kernel
theorem dJ6_bitCount_0f7a4_46 : decode cJ6_bitCount_0f7a4 46 = .ok (.iadd, 1) := by decide +kernel
theorem dJ6_bitCount_0f7a4_47 : decode cJ6_bitCount_0f7a4 47 = .ok (.istore_n 0, 1) := by decide +kernel
theorem dJ6_bitCount_0f7a4_48 : decode cJ6_bitCount_0f7a4 48 = .ok (.iload_n 0, 1) := by decide +kernel
theorem dJ6_bitCount_0f7a4_49 : decode cJ6_bitCount_0f7a4 49 = .ok (.bipush 63, 2) := by decide +kernel
theorem dJ6_bitCount_0f7a4_51 : decode cJ6_bitCount_0f7a4 51 = .ok (.iand, 1) := by decide +kernel
theorem dJ6_bitCount_0f7a4_52 : decode cJ6_bitCount_0f7a4 52 = .ok (.ireturn, 1) := by decide +kernel
theorem dJ9_max_7cf53_0 : decode cJ9_max_7cf53 0 = .ok (.iload_n 0, 1) := by decide +kernel
theorem dJ9_max_7cf53_1 : decode cJ9_max_7cf53 1 = .ok (.iload_n 1, 1) := by decide +kernel
theorem dJ9_max_7cf53_2 : decode cJ9_max_7cf53 2 = .ok (.if_icmp .lt 7, 3) := by decide +kernel
theorem dJ9_max_7cf53_5 : decode cJ9_max_7cf53 5 = .ok (.iload_n 0, 1) := by decide +kernel
theorem dJ9_max_7cf53_6 : decode cJ9_max_7cf53 6 = .ok (.goto 4, 3) := by decide +kernel
theorem dJ9_max_7cf53_9 : decode cJ9_max_7cf53 9 = .ok (.iload_n 1, 1) := by decide +kernel
theorem dJ9_max_7cf53_10 : decode cJ9_max_7cf53 10 = .ok (.ireturn, 1) := by decide +kernel
theorem dJ9_min_7cf53_0 : decode cJ9_min_7cf53 0 = .ok (.iload_n 0, 1) := by decide +kernel
theorem dJ9_min_7cf53_1 : decode cJ9_min_7cf53 1 = .ok (.iload_n 1, 1) := by decide +kernel
theorem dJ9_min_7cf53_2 : decode cJ9_min_7cf53 2 = .ok (.if_icmp .gt 7, 3) := by decide +kernel
theorem dJ9_min_7cf53_5 : decode cJ9_min_7cf53 5 = .ok (.iload_n 0, 1) := by decide +kernel
theorem dJ9_min_7cf53_6 : decode cJ9_min_7cf53 6 = .ok (.goto 4, 3) := by decide +kernel
theorem dJ9_min_7cf53_9 : decode cJ9_min_7cf53 9 = .ok (.iload_n 1, 1) := by decide +kernel
theorem dJ9_min_7cf53_10 : decode cJ9_min_7cf53 10 = .ok (.ireturn, 1) := by decide +kernel
theorem dJ0_length_8abf5_0 : decode cJ0_length_8abf5 0 = .ok (.aload_n 0, 1) := by decide +kernel
theorem dJ0_length_8abf5_1 : decode cJ0_length_8abf5 1 = .ok (.getfield 9, 3) := by decide +kernel
theorem dJ0_length_8abf5_4 : decode cJ0_length_8abf5 4 = .ok (.arraylength, 1) := by decide +kernel
theorem dJ0_length_8abf5_5 : decode cJ0_length_8abf5 5 = .ok (.aload_n 0, 1) := by decide +kernel
theorem dJ0_length_8abf5_6 : decode cJ0_length_8abf5 6 = .ok (.invokevirtual 335, 3) := by decide +kernel
theorem dJ0_length_8abf5_9 : decode cJ0_length_8abf5 9 = .ok (.ishr, 1) := by decide +kernel
theorem dJ0_length_8abf5_10 : decode cJ0_length_8abf5 10 = .ok (.ireturn, 1) := by decide +kernel
theorem dJ0_indexOf_0f7a4_0 : decode cJ0_indexOf_0f7a4 0 = .ok (.aload_n 0, 1) := by decide +kernel
theorem dJ0_indexOf_0f7a4_1 : decode cJ0_indexOf_0f7a4 1 = .ok (.iload_n 1, 1) := by decide +kernel
theorem dJ0_indexOf_0f7a4_2 : decode cJ0_indexOf_0f7a4 2 = .ok (.iconst 0, 1) := by decide +kernel
theorem dJ0_indexOf_0f7a4_3 : decode cJ0_indexOf_0f7a4 3 = .ok (.invokevirtual 633, 3) := by decide +kernel
theorem dJ0_indexOf_0f7a4_6 : decode cJ0_indexOf_0f7a4 6 = .ok (.ireturn, 1) := by decide +kernel
theorem dJ0_indexOf_7cf53_0 : decode cJ0_indexOf_7cf53 0 = .ok (.aload_n 0, 1) := by decide +kernel
theorem dJ0_indexOf_7cf53_1 : decode cJ0_indexOf_7cf53 1 = .ok (.invokevirtual 492, 3) := by decide +kernel
theorem dJ0_indexOf_7cf53_4 : decode cJ0_indexOf_7cf53 4 = .ok (.ifCond .eq 19, 3) := by decide +kernel
theorem dJ0_indexOf_7cf53_7 : decode cJ0_indexOf_7cf53 7 = .ok (.aload_n 0, 1) := by decide +kernel
theorem dJ0_indexOf_7cf53_8 : decode cJ0_indexOf_7cf53 8 = .ok (.getfield 9, 3) := by decide +kernel
theorem dJ0_indexOf_7cf53_11 : decode cJ0_indexOf_7cf53 11 = .ok (.iload_n 1, 1) := by decide +kernel
theorem dJ0_indexOf_7cf53_12 : decode cJ0_indexOf_7cf53 12 = .ok (.iload_n 2, 1) := by decide +kernel
theorem dJ0_indexOf_7cf53_13 : decode cJ0_indexOf_7cf53 13 = .ok (.aload_n 0, 1) := by decide +kernel
theorem dJ0_indexOf_7cf53_14 : decode cJ0_indexOf_7cf53 14 = .ok (.invokevirtual 505, 3) := by decide +kernel
theorem dJ0_indexOf_7cf53_17 : decode cJ0_indexOf_7cf53 17 = .ok (.invokestatic 637, 3) := by decide +kernel
theorem dJ0_indexOf_7cf53_20 : decode cJ0_indexOf_7cf53 20 = .ok (.goto 16, 3) := by decide +kernel
theorem dJ0_indexOf_7cf53_23 : decode cJ0_indexOf_7cf53 23 = .ok (.aload_n 0, 1) := by decide +kernel
theorem dJ0_indexOf_7cf53_24 : decode cJ0_indexOf_7cf53 24 = .ok (.getfield 9, 3) := by decide +kernel
theorem dJ0_indexOf_7cf53_27 : decode cJ0_indexOf_7cf53 27 = .ok (.iload_n 1, 1) := by decide +kernel
theorem dJ0_indexOf_7cf53_28 : decode cJ0_indexOf_7cf53 28 = .ok (.iload_n 2, 1) := by decide +kernel
theorem dJ0_indexOf_7cf53_29 : decode cJ0_indexOf_7cf53 29 = .ok (.aload_n 0, 1) := by decide +kernel
theorem dJ0_indexOf_7cf53_30 : decode cJ0_indexOf_7cf53 30 = .ok (.invokevirtual 505, 3) := by decide +kernel
theorem dJ0_indexOf_7cf53_33 : decode cJ0_indexOf_7cf53 33 = .ok (.invokestatic 640, 3) := by decide +kernel
theorem dJ0_indexOf_7cf53_36 : decode cJ0_indexOf_7cf53 36 = .ok (.ireturn, 1) := by decide +kernel
theorem dJ0_coder_7d493_0 : decode cJ0_coder_7d493 0 = .ok (.getstatic 38, 3) := by decide +kernel
theorem dJ0_coder_7d493_3 : decode cJ0_coder_7d493 3 = .ok (.ifCond .eq 10, 3) := by decide +kernel
theorem dJ0_coder_7d493_6 : decode cJ0_coder_7d493 6 = .ok (.aload_n 0, 1) := by decide +kernel
theorem dJ0_coder_7d493_7 : decode cJ0_coder_7d493 7 = .ok (.getfield 15, 3) := by decide +kernel
theorem dJ0_coder_7d493_10 : decode cJ0_coder_7d493 10 = .ok (.goto 4, 3) := by decide +kernel
theorem dJ0_coder_7d493_13 : decode cJ0_coder_7d493 13 = .ok (.iconst 1, 1) := by decide +kernel
theorem dJ0_coder_7d493_14 : decode cJ0_coder_7d493 14 = .ok (.ireturn, 1) := by decide +kernel
theorem dJ0_isLatin1_aae02_0 : decode cJ0_isLatin1_aae02 0 = .ok (.getstatic 38, 3) := by decide +kernel
theorem dJ0_isLatin1_aae02_3 : decode cJ0_isLatin1_aae02 3 = .ok (.ifCond .eq 14, 3) := by decide +kernel
theorem dJ0_isLatin1_aae02_6 : decode cJ0_isLatin1_aae02 6 = .ok (.aload_n 0, 1) := by decide +kernel
theorem dJ0_isLatin1_aae02_7 : decode cJ0_isLatin1_aae02 7 = .ok (.getfield 15, 3) := by decide +kernel
theorem dJ0_isLatin1_aae02_10 : decode cJ0_isLatin1_aae02 10 = .ok (.ifCond .ne 7, 3) := by decide +kernel
theorem dJ0_isLatin1_aae02_13 : decode cJ0_isLatin1_aae02 13 = .ok (.iconst 1, 1) := by decide +kernel
theorem dJ0_isLatin1_aae02_14 : decode cJ0_isLatin1_aae02 14 = .ok (.goto 4, 3) := by decide +kernel
theorem dJ0_isLatin1_aae02_17 : decode cJ0_isLatin1_aae02 17 = .ok (.iconst 0, 1) := by decide +kernel
theorem dJ0_isLatin1_aae02_18 : decode cJ0_isLatin1_aae02 18 = .ok (.ireturn, 1) := by decide +kernel
theorem dJ0_checkBoundsBeginEnd_23922_0 : decode cJ0_checkBoundsBeginEnd_23922 0 = .ok (.iload_n 0, 1) := by decide +kernel
theorem dJ0_checkBoundsBeginEnd_23922_1 : decode cJ0_checkBoundsBeginEnd_23922 1 = .ok (.iload_n 1, 1) := by decide +kernel
theorem dJ0_checkBoundsBeginEnd_23922_2 : decode cJ0_checkBoundsBeginEnd_23922 2 = .ok (.iload_n 2, 1) := by decide +kernel
theorem dJ0_checkBoundsBeginEnd_23922_3 : decode cJ0_checkBoundsBeginEnd_23922 3 = .ok (.getstatic 1053, 3) := by decide +kernel
theorem dJ0_checkBoundsBeginEnd_23922_6 : decode cJ0_checkBoundsBeginEnd_23922 6 = .ok (.invokestatic 1062, 3) := by decide +kernel
theorem dJ0_checkBoundsBeginEnd_23922_9 : decode cJ0_checkBoundsBeginEnd_23922 9 = .ok (.pop, 1) := by decide +kernel
theorem dJ0_checkBoundsBeginEnd_23922_10 : decode cJ0_checkBoundsBeginEnd_23922 10 = .ok (.return_, 1) := by decide +kernel
theorem dJ1_canEncode_9a6ad_0 : decode cJ1_canEncode_9a6ad 0 = .ok (.iload_n 0, 1) := by decide +kernel
theorem dJ1_canEncode_9a6ad_1 : decode cJ1_canEncode_9a6ad 1 = .ok (.ifCond .lt 14, 3) := by decide +kernel
theorem dJ1_canEncode_9a6ad_4 : decode cJ1_canEncode_9a6ad 4 = .ok (.iload_n 0, 1) := by decide +kernel
theorem dJ1_canEncode_9a6ad_5 : decode cJ1_canEncode_9a6ad 5 = .ok (.sipush 255, 3) := by decide +kernel
theorem dJ1_canEncode_9a6ad_8 : decode cJ1_canEncode_9a6ad 8 = .ok (.if_icmp .gt 7, 3) := by decide +kernel
theorem dJ1_canEncode_9a6ad_11 : decode cJ1_canEncode_9a6ad 11 = .ok (.iconst 1, 1) := by decide +kernel
theorem dJ1_canEncode_9a6ad_12 : decode cJ1_canEncode_9a6ad 12 = .ok (.goto 4, 3) := by decide +kernel
theorem dJ1_canEncode_9a6ad_15 : decode cJ1_canEncode_9a6ad 15 = .ok (.iconst 0, 1) := by decide +kernel
theorem dJ1_canEncode_9a6ad_16 : decode cJ1_canEncode_9a6ad 16 = .ok (.ireturn, 1) := by decide +kernel
theorem dJ1_indexOf_4cfef_0 : decode cJ1_indexOf_4cfef 0 = .ok (.iload_n 1, 1) := by decide +kernel
theorem dJ1_indexOf_4cfef_1 : decode cJ1_indexOf_4cfef 1 = .ok (.invokestatic 88, 3) := by decide +kernel
theorem dJ1_indexOf_4cfef_4 : decode cJ1_indexOf_4cfef 4 = .ok (.ifCond .ne 5, 3) := by decide +kernel
theorem dJ1_indexOf_4cfef_7 : decode cJ1_indexOf_4cfef 7 = .ok (.iconst (-1), 1) := by decide +kernel
theorem dJ1_indexOf_4cfef_8 : decode cJ1_indexOf_4cfef 8 = .ok (.ireturn, 1) := by decide +kernel
theorem dJ1_indexOf_4cfef_9 : decode cJ1_indexOf_4cfef 9 = .ok (.iload_n 2, 1) := by decide +kernel
theorem dJ1_indexOf_4cfef_10 : decode cJ1_indexOf_4cfef 10 = .ok (.iconst 0, 1) := by decide +kernel
theorem dJ1_indexOf_4cfef_11 : decode cJ1_indexOf_4cfef 11 = .ok (.invokestatic 92, 3) := by decide +kernel
theorem dJ1_indexOf_4cfef_14 : decode cJ1_indexOf_4cfef 14 = .ok (.istore_n 2, 1) := by decide +kernel
theorem dJ1_indexOf_4cfef_15 : decode cJ1_indexOf_4cfef 15 = .ok (.iload_n 3, 1) := by decide +kernel
theorem dJ1_indexOf_4cfef_16 : decode cJ1_indexOf_4cfef 16 = .ok (.aload_n 0, 1) := by decide +kernel
theorem dJ1_indexOf_4cfef_17 : decode cJ1_indexOf_4cfef 17 = .ok (.arraylength, 1) := by decide +kernel
theorem dJ1_indexOf_4cfef_18 : decode cJ1_indexOf_4cfef 18 = .ok (.invokestatic 38, 3) := by decide +kernel
theorem dJ1_indexOf_4cfef_21 : decode cJ1_indexOf_4cfef 21 = .ok (.istore_n 3, 1) := by decide +kernel
theorem dJ1_indexOf_4cfef_22 : decode cJ1_indexOf_4cfef 22 = .ok (.iload_n 2, 1) := by decide +kernel
theorem dJ1_indexOf_4cfef_23 : decode cJ1_indexOf_4cfef 23 = .ok (.iload_n 3, 1) := by decide +kernel
theorem dJ1_indexOf_4cfef_24 : decode cJ1_indexOf_4cfef 24 = .ok (.if_icmp .lt 5, 3) := by decide +kernel
theorem dJ1_indexOf_4cfef_27 : decode cJ1_indexOf_4cfef 27 = .ok (.iconst (-1), 1) := by decide +kernel
theorem dJ1_indexOf_4cfef_28 : decode cJ1_indexOf_4cfef 28 = .ok (.ireturn, 1) := by decide +kernel
theorem dJ1_indexOf_4cfef_29 : decode cJ1_indexOf_4cfef 29 = .ok (.aload_n 0, 1) := by decide +kernel
theorem dJ1_indexOf_4cfef_30 : decode cJ1_indexOf_4cfef 30 = .ok (.iload_n 1, 1) := by decide +kernel
theorem dJ1_indexOf_4cfef_31 : decode cJ1_indexOf_4cfef 31 = .ok (.iload_n 2, 1) := by decide +kernel
theorem dJ1_indexOf_4cfef_32 : decode cJ1_indexOf_4cfef 32 = .ok (.iload_n 3, 1) := by decide +kernel
theorem dJ1_indexOf_4cfef_33 : decode cJ1_indexOf_4cfef 33 = .ok (.invokestatic 95, 3) := by decide +kernel
theorem dJ1_indexOf_4cfef_36 : decode cJ1_indexOf_4cfef 36 = .ok (.ireturn, 1) := by decide +kernel
theorem dJ1_indexOfChar_4cfef_0 : decode cJ1_indexOfChar_4cfef 0 = .ok (.iload_n 1, 1) := by decide +kernel
theorem dJ1_indexOfChar_4cfef_1 : decode cJ1_indexOfChar_4cfef 1 = .ok (.i2b, 1) := by decide +kernel
theorem dJ1_indexOfChar_4cfef_2 : decode cJ1_indexOfChar_4cfef 2 = .ok (.istore 4, 2) := by decide +kernel
theorem dJ1_indexOfChar_4cfef_4 : decode cJ1_indexOfChar_4cfef 4 = .ok (.iload_n 2, 1) := by decide +kernel
theorem dJ1_indexOfChar_4cfef_5 : decode cJ1_indexOfChar_4cfef 5 = .ok (.istore 5, 2) := by decide +kernel
theorem dJ1_indexOfChar_4cfef_7 : decode cJ1_indexOfChar_4cfef 7 = .ok (.iload 5, 2) := by decide +kernel
theorem dJ1_indexOfChar_4cfef_9 : decode cJ1_indexOfChar_4cfef 9 = .ok (.iload_n 3, 1) := by decide +kernel
theorem dJ1_indexOfChar_4cfef_10 : decode cJ1_indexOfChar_4cfef 10 = .ok (.if_icmp .ge 21, 3) := by decide +kernel
theorem dJ1_indexOfChar_4cfef_13 : decode cJ1_indexOfChar_4cfef 13 = .ok (.aload_n 0, 1) := by decide +kernel
theorem dJ1_indexOfChar_4cfef_14 : decode cJ1_indexOfChar_4cfef 14 = .ok (.iload 5, 2) := by decide +kernel
theorem dJ1_indexOfChar_4cfef_16 : decode cJ1_indexOfChar_4cfef 16 = .ok (.baload, 1) := by decide +kernel
theorem dJ1_indexOfChar_4cfef_17 : decode cJ1_indexOfChar_4cfef 17 = .ok (.iload 4, 2) := by decide +kernel
theorem dJ1_indexOfChar_4cfef_19 : decode cJ1_indexOfChar_4cfef 19 = .ok (.if_icmp .ne 6, 3) := by decide +kernel
theorem dJ1_indexOfChar_4cfef_22 : decode cJ1_indexOfChar_4cfef 22 = .ok (.iload 5, 2) := by decide +kernel
theorem dJ1_indexOfChar_4cfef_24 : decode cJ1_indexOfChar_4cfef 24 = .ok (.ireturn, 1) := by decide +kernel
theorem dJ1_indexOfChar_4cfef_25 : decode cJ1_indexOfChar_4cfef 25 = .ok (.iinc 5 1, 3) := by decide +kernel
theorem dJ1_indexOfChar_4cfef_28 : decode cJ1_indexOfChar_4cfef 28 = .ok (.goto (-21), 3) := by decide +kernel
theorem dJ1_indexOfChar_4cfef_31 : decode cJ1_indexOfChar_4cfef 31 = .ok (.iconst (-1), 1) := by decide +kernel
theorem dJ1_indexOfChar_4cfef_32 : decode cJ1_indexOfChar_4cfef 32 = .ok (.ireturn, 1) := by decide +kernel
theorem dJ2_getChar_3b067_0 : decode cJ2_getChar_3b067 0 = .ok (.getstatic 44, 3) := by decide +kernel
theorem dJ2_getChar_3b067_3 : decode cJ2_getChar_3b067 3 = .ok (.ifCond .ne 25, 3) := by decide +kernel
theorem dJ2_getChar_3b067_6 : decode cJ2_getChar_3b067 6 = .ok (.iload_n 1, 1) := by decide +kernel
theorem dJ2_getChar_3b067_7 : decode cJ2_getChar_3b067 7 = .ok (.ifCond .lt 11, 3) := by decide +kernel
theorem dJ2_getChar_3b067_10 : decode cJ2_getChar_3b067 10 = .ok (.iload_n 1, 1) := by decide +kernel
theorem dJ2_getChar_3b067_11 : decode cJ2_getChar_3b067 11 = .ok (.aload_n 0, 1) := by decide +kernel
theorem dJ2_getChar_3b067_12 : decode cJ2_getChar_3b067 12 = .ok (.invokestatic 48, 3) := by decide +kernel
theorem dJ2_getChar_3b067_15 : decode cJ2_getChar_3b067 15 = .ok (.if_icmp .lt 13, 3) := by decide +kernel
theorem dJ2_getChar_3b067_18 : decode cJ2_getChar_3b067 18 = .ok (.new 52, 3) := by decide +kernel
theorem dJ2_getChar_3b067_21 : decode cJ2_getChar_3b067 21 = .ok (.dup, 1) := by decide +kernel
theorem dJ2_getChar_3b067_22 : decode cJ2_getChar_3b067 22 = .ok (.ldc 54, 2) := by decide +kernel
theorem dJ2_getChar_3b067_24 : decode cJ2_getChar_3b067 24 = .ok (.invokespecial 56, 3) := by decide +kernel
theorem dJ2_getChar_3b067_27 : decode cJ2_getChar_3b067 27 = .ok (.athrow, 1) := by decide +kernel
theorem dJ2_getChar_3b067_28 : decode cJ2_getChar_3b067 28 = .ok (.iload_n 1, 1) := by decide +kernel
theorem dJ2_getChar_3b067_29 : decode cJ2_getChar_3b067 29 = .ok (.iconst 1, 1) := by decide +kernel
theorem dJ2_getChar_3b067_30 : decode cJ2_getChar_3b067 30 = .ok (.ishl, 1) := by decide +kernel
theorem dJ2_getChar_3b067_31 : decode cJ2_getChar_3b067 31 = .ok (.istore_n 1, 1) := by decide +kernel
theorem dJ2_getChar_3b067_32 : decode cJ2_getChar_3b067 32 = .ok (.aload_n 0, 1) := by decide +kernel
theorem dJ2_getChar_3b067_33 : decode cJ2_getChar_3b067 33 = .ok (.iload_n 1, 1) := by decide +kernel
theorem dJ2_getChar_3b067_34 : decode cJ2_getChar_3b067 34 = .ok (.iinc 1 1, 3) := by decide +kernel
theorem dJ2_getChar_3b067_37 : decode cJ2_getChar_3b067 37 = .ok (.baload, 1) := by decide +kernel
theorem dJ2_getChar_3b067_38 : decode cJ2_getChar_3b067 38 = .ok (.sipush 255, 3) := by decide +kernel
theorem dJ2_getChar_3b067_41 : decode cJ2_getChar_3b067 41 = .ok (.iand, 1) := by decide +kernel
theorem dJ2_getChar_3b067_42 : decode cJ2_getChar_3b067 42 = .ok (.getstatic 59, 3) := by decide +kernel
theorem dJ2_getChar_3b067_45 : decode cJ2_getChar_3b067 45 = .ok (.ishl, 1) := by decide +kernel
theorem dJ2_getChar_3b067_46 : decode cJ2_getChar_3b067 46 = .ok (.aload_n 0, 1) := by decide +kernel
theorem dJ2_getChar_3b067_47 : decode cJ2_getChar_3b067 47 = .ok (.iload_n 1, 1) := by decide +kernel
theorem dJ2_getChar_3b067_48 : decode cJ2_getChar_3b067 48 = .ok (.baload, 1) := by decide +kernel
theorem dJ2_getChar_3b067_49 : decode cJ2_getChar_3b067 49 = .ok (.sipush 255, 3) := by decide +kernel
theorem dJ2_getChar_3b067_52 : decode cJ2_getChar_3b067 52 = .ok (.iand, 1) := by decide +kernel
theorem dJ2_getChar_3b067_53 : decode cJ2_getChar_3b067 53 = .ok (.getstatic 63, 3) := by decide +kernel
theorem dJ2_getChar_3b067_56 : decode cJ2_getChar_3b067 56 = .ok (.ishl, 1) := by decide +kernel
theorem dJ2_getChar_3b067_57 : decode cJ2_getChar_3b067 57 = .ok (.ior, 1) := by decide +kernel
theorem dJ2_getChar_3b067_58 : decode cJ2_getChar_3b067 58 = .ok (.i2c, 1) := by decide +kernel
theorem dJ2_getChar_3b067_59 : decode cJ2_getChar_3b067 59 = .ok (.ireturn, 1) := by decide +kernel
theorem dJ2_length_9d52b_0 : decode cJ2_length_9d52b 0 = .ok (.aload_n 0, 1) := by decide +kernel
theorem dJ2_length_9d52b_1 : decode cJ2_length_9d52b 1 = .ok (.arraylength, 1) := by decide +kernel
theorem dJ2_length_9d52b_2 : decode cJ2_length_9d52b 2 = .ok (.iconst 1, 1) := by decide +kernel
theorem dJ2_length_9d52b_3 : decode cJ2_length_9d52b 3 = .ok (.ishr, 1) := by decide +kernel
theorem dJ2_length_9d52b_4 : decode cJ2_length_9d52b 4 = .ok (.ireturn, 1) := by decide +kernel
theorem dJ2_indexOf_4cfef_0 : decode cJ2_indexOf_4cfef 0 = .ok (.iload_n 2, 1) := by decide +kernel
theorem dJ2_indexOf_4cfef_1 : decode cJ2_indexOf_4cfef 1 = .ok (.iconst 0, 1) := by decide +kernel
theorem dJ2_indexOf_4cfef_2 : decode cJ2_indexOf_4cfef 2 = .ok (.invokestatic 224, 3) := by decide +kernel
theorem dJ2_indexOf_4cfef_5 : decode cJ2_indexOf_4cfef 5 = .ok (.istore_n 2, 1) := by decide +kernel
theorem dJ2_indexOf_4cfef_6 : decode cJ2_indexOf_4cfef 6 = .ok (.iload_n 3, 1) := by decide +kernel
theorem dJ2_indexOf_4cfef_7 : decode cJ2_indexOf_4cfef 7 = .ok (.aload_n 0, 1) := by decide +kernel
theorem dJ2_indexOf_4cfef_8 : decode cJ2_indexOf_4cfef 8 = .ok (.arraylength, 1) := by decide +kernel
theorem dJ2_indexOf_4cfef_9 : decode cJ2_indexOf_4cfef 9 = .ok (.iconst 1, 1) := by decide +kernel
theorem dJ2_indexOf_4cfef_10 : decode cJ2_indexOf_4cfef 10 = .ok (.ishr, 1) := by decide +kernel
theorem dJ2_indexOf_4cfef_11 : decode cJ2_indexOf_4cfef 11 = .ok (.invokestatic 183, 3) := by decide +kernel
theorem dJ2_indexOf_4cfef_14 : decode cJ2_indexOf_4cfef 14 = .ok (.istore_n 3, 1) := by decide +kernel
theorem dJ2_indexOf_4cfef_15 : decode cJ2_indexOf_4cfef 15 = .ok (.iload_n 2, 1) := by decide +kernel
theorem dJ2_indexOf_4cfef_16 : decode cJ2_indexOf_4cfef 16 = .ok (.iload_n 3, 1) := by decide +kernel
theorem dJ2_indexOf_4cfef_17 : decode cJ2_indexOf_4cfef 17 = .ok (.if_icmp .lt 5, 3) := by decide +kernel
theorem dJ2_indexOf_4cfef_20 : decode cJ2_indexOf_4cfef 20 = .ok (.iconst (-1), 1) := by decide +kernel
theorem dJ2_indexOf_4cfef_21 : decode cJ2_indexOf_4cfef 21 = .ok (.ireturn, 1) := by decide +kernel
theorem dJ2_indexOf_4cfef_22 : decode cJ2_indexOf_4cfef 22 = .ok (.iload_n 1, 1) := by decide +kernel
theorem dJ2_indexOf_4cfef_23 : decode cJ2_indexOf_4cfef 23 = .ok (.ldc 227, 2) := by decide +kernel
theorem dJ2_indexOf_4cfef_25 : decode cJ2_indexOf_4cfef 25 = .ok (.if_icmp .ge 11, 3) := by decide +kernel
theorem dJ2_indexOf_4cfef_28 : decode cJ2_indexOf_4cfef 28 = .ok (.aload_n 0, 1) := by decide +kernel
theorem dJ2_indexOf_4cfef_29 : decode cJ2_indexOf_4cfef 29 = .ok (.iload_n 1, 1) := by decide +kernel
theorem dJ2_indexOf_4cfef_30 : decode cJ2_indexOf_4cfef 30 = .ok (.iload_n 2, 1) := by decide +kernel
theorem dJ2_indexOf_4cfef_31 : decode cJ2_indexOf_4cfef 31 = .ok (.iload_n 3, 1) := by decide +kernel
theorem dJ2_indexOf_4cfef_32 : decode cJ2_indexOf_4cfef 32 = .ok (.invokestatic 228, 3) := by decide +kernel
theorem dJ2_indexOf_4cfef_35 : decode cJ2_indexOf_4cfef 35 = .ok (.ireturn, 1) := by decide +kernel
theorem dJ2_indexOf_4cfef_36 : decode cJ2_indexOf_4cfef 36 = .ok (.aload_n 0, 1) := by decide +kernel
theorem dJ2_indexOf_4cfef_37 : decode cJ2_indexOf_4cfef 37 = .ok (.iload_n 1, 1) := by decide +kernel
theorem dJ2_indexOf_4cfef_38 : decode cJ2_indexOf_4cfef 38 = .ok (.iload_n 2, 1) := by decide +kernel
theorem dJ2_indexOf_4cfef_39 : decode cJ2_indexOf_4cfef 39 = .ok (.iload_n 3, 1) := by decide +kernel
theorem dJ2_indexOf_4cfef_40 : decode cJ2_indexOf_4cfef 40 = .ok (.invokestatic 232, 3) := by decide +kernel
theorem dJ2_indexOf_4cfef_43 : decode cJ2_indexOf_4cfef 43 = .ok (.ireturn, 1) := by decide +kernel
theorem dJ2_indexOfChar_4cfef_0 : decode cJ2_indexOfChar_4cfef 0 = .ok (.iload_n 2, 1) := by decide +kernel
theorem dJ2_indexOfChar_4cfef_1 : decode cJ2_indexOfChar_4cfef 1 = .ok (.iload_n 3, 1) := by decide +kernel
theorem dJ2_indexOfChar_4cfef_2 : decode cJ2_indexOfChar_4cfef 2 = .ok (.aload_n 0, 1) := by decide +kernel
theorem dJ2_indexOfChar_4cfef_3 : decode cJ2_indexOfChar_4cfef 3 = .ok (.invokestatic 96, 3) := by decide +kernel
theorem dJ2_indexOfChar_4cfef_6 : decode cJ2_indexOfChar_4cfef 6 = .ok (.aload_n 0, 1) := by decide +kernel
theorem dJ2_indexOfChar_4cfef_7 : decode cJ2_indexOfChar_4cfef 7 = .ok (.iload_n 1, 1) := by decide +kernel
theorem dJ2_indexOfChar_4cfef_8 : decode cJ2_indexOfChar_4cfef 8 = .ok (.iload_n 2, 1) := by decide +kernel
theorem dJ2_indexOfChar_4cfef_9 : decode cJ2_indexOfChar_4cfef 9 = .ok (.iload_n 3, 1) := by decide +kernel
theorem dJ2_indexOfChar_4cfef_10 : decode cJ2_indexOfChar_4cfef 10 = .ok (.invokestatic 244, 3) := by decide +kernel
theorem dJ2_indexOfChar_4cfef_13 : decode cJ2_indexOfChar_4cfef 13 = .ok (.ireturn, 1) := by decide +kernel
theorem dJ2_indexOfCharUnsafe_4cfef_0 : decode cJ2_indexOfCharUnsafe_4cfef 0 = .ok (.iload_n 2, 1) := by decide +kernel
theorem dJ2_indexOfCharUnsafe_4cfef_1 : decode cJ2_indexOfCharUnsafe_4cfef 1 = .ok (.istore 4, 2) := by decide +kernel
theorem dJ2_indexOfCharUnsafe_4cfef_3 : decode cJ2_indexOfCharUnsafe_4cfef 3 = .ok (.iload 4, 2) := by decide +kernel
theorem dJ2_indexOfCharUnsafe_4cfef_5 : decode cJ2_indexOfCharUnsafe_4cfef 5 = .ok (.iload_n 3, 1) := by decide +kernel
theorem dJ2_indexOfCharUnsafe_4cfef_6 : decode cJ2_indexOfCharUnsafe_4cfef 6 = .ok (.if_icmp .ge 22, 3) := by decide +kernel
theorem dJ2_indexOfCharUnsafe_4cfef_9 : decode cJ2_indexOfCharUnsafe_4cfef 9 = .ok (.aload_n 0, 1) := by decide +kernel
theorem dJ2_indexOfCharUnsafe_4cfef_10 : decode cJ2_indexOfCharUnsafe_4cfef 10 = .ok (.iload 4, 2) := by decide +kernel
theorem dJ2_indexOfCharUnsafe_4cfef_12 : decode cJ2_indexOfCharUnsafe_4cfef 12 = .ok (.invokestatic 71, 3) := by decide +kernel
theorem dJ2_indexOfCharUnsafe_4cfef_15 : decode cJ2_indexOfCharUnsafe_4cfef 15 = .ok (.iload_n 1, 1) := by decide +kernel
theorem dJ2_indexOfCharUnsafe_4cfef_16 : decode cJ2_indexOfCharUnsafe_4cfef 16 = .ok (.if_icmp .ne 6, 3) := by decide +kernel
theorem dJ2_indexOfCharUnsafe_4cfef_19 : decode cJ2_indexOfCharUnsafe_4cfef 19 = .ok (.iload 4, 2) := by decide +kernel
theorem dJ2_indexOfCharUnsafe_4cfef_21 : decode cJ2_indexOfCharUnsafe_4cfef 21 = .ok (.ireturn, 1) := by decide +kernel
theorem dJ2_indexOfCharUnsafe_4cfef_22 : decode cJ2_indexOfCharUnsafe_4cfef 22 = .ok (.iinc 4 1, 3) := by decide +kernel
theorem dJ2_indexOfCharUnsafe_4cfef_25 : decode cJ2_indexOfCharUnsafe_4cfef 25 = .ok (.goto (-22), 3) := by decide +kernel
theorem dJ2_indexOfCharUnsafe_4cfef_28 : decode cJ2_indexOfCharUnsafe_4cfef 28 = .ok (.iconst (-1), 1) := by decide +kernel
theorem dJ2_indexOfCharUnsafe_4cfef_29 : decode cJ2_indexOfCharUnsafe_4cfef 29 = .ok (.ireturn, 1) := by decide +kernel
theorem dJ2_indexOfSupplementary_4cfef_0 : decode cJ2_indexOfSupplementary_4cfef 0 = .ok (.iload_n 1, 1) := by decide +kernel
theorem dJ2_indexOfSupplementary_4cfef_1 : decode cJ2_indexOfSupplementary_4cfef 1 = .ok (.invokestatic 164, 3) := by decide +kernel
theorem dJ2_indexOfSupplementary_4cfef_4 : decode cJ2_indexOfSupplementary_4cfef 4 = .ok (.ifCond .eq 65, 3) := by decide +kernel
theorem dJ2_indexOfSupplementary_4cfef_7 : decode cJ2_indexOfSupplementary_4cfef 7 = .ok (.iload_n 1, 1) := by decide +kernel
theorem dJ2_indexOfSupplementary_4cfef_8 : decode cJ2_indexOfSupplementary_4cfef 8 = .ok (.invokestatic 157, 3) := by decide +kernel
theorem dJ2_indexOfSupplementary_4cfef_11 : decode cJ2_indexOfSupplementary_4cfef 11 = .ok (.istore 4, 2) := by decide +kernel
theorem dJ2_indexOfSupplementary_4cfef_13 : decode cJ2_indexOfSupplementary_4cfef 13 = .ok (.iload_n 1, 1) := by decide +kernel
theorem dJ2_indexOfSupplementary_4cfef_14 : decode cJ2_indexOfSupplementary_4cfef 14 = .ok (.invokestatic 161, 3) := by decide +kernel
theorem dJ2_indexOfSupplementary_4cfef_17 : decode cJ2_indexOfSupplementary_4cfef 17 = .ok (.istore 5, 2) := by decide +kernel
theorem dJ2_indexOfSupplementary_4cfef_19 : decode cJ2_indexOfSupplementary_4cfef 19 = .ok (.iload_n 2, 1) := by decide +kernel
theorem dJ2_indexOfSupplementary_4cfef_20 : decode cJ2_indexOfSupplementary_4cfef 20 = .ok (.iload_n 3, 1) := by decide +kernel
theorem dJ2_indexOfSupplementary_4cfef_21 : decode cJ2_indexOfSupplementary_4cfef 21 = .ok (.aload_n 0, 1) := by decide +kernel
theorem dJ2_indexOfSupplementary_4cfef_22 : decode cJ2_indexOfSupplementary_4cfef 22 = .ok (.invokestatic 96, 3) := by decide +kernel
theorem dJ2_indexOfSupplementary_4cfef_25 : decode cJ2_indexOfSupplementary_4cfef 25 = .ok (.iload_n 2, 1) := by decide +kernel
theorem dJ2_indexOfSupplementary_4cfef_26 : decode cJ2_indexOfSupplementary_4cfef 26 = .ok (.istore 6, 2) := by decide +kernel
theorem dJ2_indexOfSupplementary_4cfef_28 : decode cJ2_indexOfSupplementary_4cfef 28 = .ok (.iload 6, 2) := by decide +kernel
theorem dJ2_indexOfSupplementary_4cfef_30 : decode cJ2_indexOfSupplementary_4cfef 30 = .ok (.iload_n 3, 1) := by decide +kernel
theorem dJ2_indexOfSupplementary_4cfef_31 : decode cJ2_indexOfSupplementary_4cfef 31 = .ok (.iconst 1, 1) := by decide +kernel
theorem dJ2_indexOfSupplementary_4cfef_32 : decode cJ2_indexOfSupplementary_4cfef 32 = .ok (.isub, 1) := by decide +kernel
theorem dJ2_indexOfSupplementary_4cfef_33 : decode cJ2_indexOfSupplementary_4cfef 33 = .ok (.if_icmp .ge 36, 3) := by decide +kernel
theorem dJ2_indexOfSupplementary_4cfef_36 : decode cJ2_indexOfSupplementary_4cfef 36 = .ok (.aload_n 0, 1) := by decide +kernel
theorem dJ2_indexOfSupplementary_4cfef_37 : decode cJ2_indexOfSupplementary_4cfef 37 = .ok (.iload 6, 2) := by decide +kernel
theorem dJ2_indexOfSupplementary_4cfef_39 : decode cJ2_indexOfSupplementary_4cfef 39 = .ok (.invokestatic 71, 3) := by decide +kernel
theorem dJ2_indexOfSupplementary_4cfef_42 : decode cJ2_indexOfSupplementary_4cfef 42 = .ok (.iload 4, 2) := by decide +kernel
theorem dJ2_indexOfSupplementary_4cfef_44 : decode cJ2_indexOfSupplementary_4cfef 44 = .ok (.if_icmp .ne 19, 3) := by decide +kernel
theorem dJ2_indexOfSupplementary_4cfef_47 : decode cJ2_indexOfSupplementary_4cfef 47 = .ok (.aload_n 0, 1) := by decide +kernel
theorem dJ2_indexOfSupplementary_4cfef_48 : decode cJ2_indexOfSupplementary_4cfef 48 = .ok (.iload 6, 2) := by decide +kernel
theorem dJ2_indexOfSupplementary_4cfef_50 : decode cJ2_indexOfSupplementary_4cfef 50 = .ok (.iconst 1, 1) := by decide +kernel
theorem dJ2_indexOfSupplementary_4cfef_51 : decode cJ2_indexOfSupplementary_4cfef 51 = .ok (.iadd, 1) := by decide +kernel
theorem dJ2_indexOfSupplementary_4cfef_52 : decode cJ2_indexOfSupplementary_4cfef 52 = .ok (.invokestatic 71, 3) := by decide +kernel
theorem dJ2_indexOfSupplementary_4cfef_55 : decode cJ2_indexOfSupplementary_4cfef 55 = .ok (.iload 5, 2) := by decide +kernel
theorem dJ2_indexOfSupplementary_4cfef_57 : decode cJ2_indexOfSupplementary_4cfef 57 = .ok (.if_icmp .ne 6, 3) := by decide +kernel
theorem dJ2_indexOfSupplementary_4cfef_60 : decode cJ2_indexOfSupplementary_4cfef 60 = .ok (.iload 6, 2) := by decide +kernel
theorem dJ2_indexOfSupplementary_4cfef_62 : decode cJ2_indexOfSupplementary_4cfef 62 = .ok (.ireturn, 1) := by decide +kernel
theorem dJ2_indexOfSupplementary_4cfef_63 : decode cJ2_indexOfSupplementary_4cfef 63 = .ok (.iinc 6 1, 3) := by decide +kernel
theorem dJ2_indexOfSupplementary_4cfef_66 : decode cJ2_indexOfSupplementary_4cfef 66 = .ok (.goto (-38), 3) := by decide +kernel
theorem dJ2_indexOfSupplementary_4cfef_69 : decode cJ2_indexOfSupplementary_4cfef 69 = .ok (.iconst (-1), 1) := by decide +kernel
theorem dJ2_indexOfSupplementary_4cfef_70 : decode cJ2_indexOfSupplementary_4cfef 70 = .ok (.ireturn, 1) := by decide +kernel
theorem dJ2_checkBoundsBeginEnd_d044e_0 : decode cJ2_checkBoundsBeginEnd_d044e 0 = .ok (.iload_n 0, 1) := by decide +kernel
theorem dJ2_checkBoundsBeginEnd_d044e_1 : decode cJ2_checkBoundsBeginEnd_d044e 1 = .ok (.iload_n 1, 1) := by decide +kernel
theorem dJ2_checkBoundsBeginEnd_d044e_2 : decode cJ2_checkBoundsBeginEnd_d044e 2 = .ok (.aload_n 2, 1) := by decide +kernel
theorem dJ2_checkBoundsBeginEnd_d044e_3 : decode cJ2_checkBoundsBeginEnd_d044e 3 = .ok (.invokestatic 48, 3) := by decide +kernel
theorem dJ2_checkBoundsBeginEnd_d044e_6 : decode cJ2_checkBoundsBeginEnd_d044e 6 = .ok (.invokestatic 241, 3) := by decide +kernel
theorem dJ2_checkBoundsBeginEnd_d044e_9 : decode cJ2_checkBoundsBeginEnd_d044e 9 = .ok (.return_, 1) := by decide +kernel
theorem dJ3_checkFromToIndex_8c36e_0 : decode cJ3_checkFromToIndex_8c36e 0 = .ok (.iload_n 0, 1) := by decide +kernel
theorem dJ3_checkFromToIndex_8c36e_1 : decode cJ3_checkFromToIndex_8c36e 1 = .ok (.ifCond .lt 13, 3) := by decide +kernel
theorem dJ3_checkFromToIndex_8c36e_4 : decode cJ3_checkFromToIndex_8c36e 4 = .ok (.iload_n 0, 1) := by decide +kernel
theorem dJ3_checkFromToIndex_8c36e_5 : decode cJ3_checkFromToIndex_8c36e 5 = .ok (.iload_n 1, 1) := by decide +kernel
theorem dJ3_checkFromToIndex_8c36e_6 : decode cJ3_checkFromToIndex_8c36e 6 = .ok (.if_icmp .gt 8, 3) := by decide +kernel
theorem dJ3_checkFromToIndex_8c36e_9 : decode cJ3_checkFromToIndex_8c36e 9 = .ok (.iload_n 1, 1) := by decide +kernel
theorem dJ3_checkFromToIndex_8c36e_10 : decode cJ3_checkFromToIndex_8c36e 10 = .ok (.iload_n 2, 1) := by decide +kernel
theorem dJ3_checkFromToIndex_8c36e_11 : decode cJ3_checkFromToIndex_8c36e 11 = .ok (.if_icmp .le 11, 3) := by decide +kernel
theorem dJ3_checkFromToIndex_8c36e_14 : decode cJ3_checkFromToIndex_8c36e 14 = .ok (.aload_n 3, 1) := by decide +kernel
theorem dJ3_checkFromToIndex_8c36e_15 : decode cJ3_checkFromToIndex_8c36e 15 = .ok (.iload_n 0, 1) := by decide +kernel
theorem dJ3_checkFromToIndex_8c36e_16 : decode cJ3_checkFromToIndex_8c36e 16 = .ok (.iload_n 1, 1) := by decide +kernel
theorem dJ3_checkFromToIndex_8c36e_17 : decode cJ3_checkFromToIndex_8c36e 17 = .ok (.iload_n 2, 1) := by decide +kernel
theorem dJ3_checkFromToIndex_8c36e_18 : decode cJ3_checkFromToIndex_8c36e 18 = .ok (.invokestatic 99, 3) := by decide +kernel
theorem dJ3_checkFromToIndex_8c36e_21 : decode cJ3_checkFromToIndex_8c36e 21 = .ok (.athrow, 1) := by decide +kernel
theorem dJ3_checkFromToIndex_8c36e_22 : decode cJ3_checkFromToIndex_8c36e 22 = .ok (.iload_n 0, 1) := by decide +kernel
theorem dJ3_checkFromToIndex_8c36e_23 : decode cJ3_checkFromToIndex_8c36e 23 = .ok (.ireturn, 1) := by decide +kernel
theorem dL_append_0 : decode cL_append 0 = .ok (.aload_n 2, 1) := by decide +kernel
theorem dL_append_1 : decode cL_append 1 = .ok (.iconst 0, 1) := by decide +kernel
theorem dL_append_2 : decode cL_append 2 = .ok (.aload_n 0, 1) := by decide +kernel
theorem dL_append_3 : decode cL_append 3 = .ok (.iload_n 1, 1) := by decide +kernel
theorem dL_append_4 : decode cL_append 4 = .ok (.invokevirtual 7, 3) := by decide +kernel
theorem dL_append_7 : decode cL_append 7 = .ok (.i2l, 1) := by decide +kernel
theorem dL_append_8 : decode cL_append 8 = .ok (.lastore, 1) := by decide +kernel
theorem dL_append_9 : decode cL_append 9 = .ok (.goto 9, 3) := by decide +kernel
theorem dL_append_12 : decode cL_append 12 = .ok (.astore_n 3, 1) := by decide +kernel
theorem dL_append_13 : decode cL_append 13 = .ok (.iconst 1, 1) := by decide +kernel
theorem dL_append_14 : decode cL_append 14 = .ok (.ireturn, 1) := by decide +kernel
theorem dL_append_15 : decode cL_append 15 = .ok (.astore_n 3, 1) := by decide +kernel
theorem dL_append_16 : decode cL_append 16 = .ok (.iconst 2, 1) := by decide +kernel
theorem dL_append_17 : decode cL_append 17 = .ok (.ireturn, 1) := by decide +kernel
theorem dL_append_18 : decode cL_append 18 = .ok (.iconst 0, 1) := by decide +kernel
theorem dL_append_19 : decode cL_append 19 = .ok (.ireturn, 1) := by decide +kernel
theorem dL_load_0 : decode cL_load 0 = .ok (.aload_n 1, 1) := by decide +kernel
theorem dL_load_1 : decode cL_load 1 = .ok (.iconst 0, 1) := by decide +kernel
theorem dL_load_2 : decode cL_load 2 = .ok (.aload_n 0, 1) := by decide +kernel
theorem dL_load_3 : decode cL_load 3 = .ok (.invokevirtual 17, 3) := by decide +kernel
theorem dL_load_6 : decode cL_load 6 = .ok (.i2l, 1) := by decide +kernel
theorem dL_load_7 : decode cL_load 7 = .ok (.lastore, 1) := by decide +kernel
theorem dL_load_8 : decode cL_load 8 = .ok (.goto 6, 3) := by decide +kernel
theorem dL_load_11 : decode cL_load 11 = .ok (.astore_n 2, 1) := by decide +kernel
theorem dL_load_12 : decode cL_load 12 = .ok (.iconst 1, 1) := by decide +kernel
theorem dL_load_13 : decode cL_load 13 = .ok (.ireturn, 1) := by decide +kernel
theorem dL_load_14 : decode cL_load 14 = .ok (.iconst 0, 1) := by decide +kernel
theorem dL_load_15 : decode cL_load 15 = .ok (.ireturn, 1) := by decide +kernel
theorem dL_about_0 : decode cL_about 0 = .ok (.aload_n 2, 1) := by decide +kernel
theorem dL_about_1 : decode cL_about 1 = .ok (.iconst 0, 1) := by decide +kernel
theorem dL_about_2 : decode cL_about 2 = .ok (.aload_n 0, 1) := by decide +kernel
theorem dL_about_3 : decode cL_about 3 = .ok (.iload_n 1, 1) := by decide +kernel
theorem dL_about_4 : decode cL_about 4 = .ok (.invokevirtual 21, 3) := by decide +kernel
theorem dL_about_7 : decode cL_about 7 = .ok (.i2l, 1) := by decide +kernel
theorem dL_about_8 : decode cL_about 8 = .ok (.lastore, 1) := by decide +kernel
theorem dL_about_9 : decode cL_about 9 = .ok (.goto 6, 3) := by decide +kernel
theorem dL_about_12 : decode cL_about 12 = .ok (.astore_n 3, 1) := by decide +kernel
theorem dL_about_13 : decode cL_about 13 = .ok (.iconst 1, 1) := by decide +kernel
theorem dL_about_14 : decode cL_about 14 = .ok (.ireturn, 1) := by decide +kernel
theorem dL_about_15 : decode cL_about 15 = .ok (.iconst 0, 1) := by decide +kernel
theorem dL_about_16 : decode cL_about 16 = .ok (.ireturn, 1) := by decide +kernel
theorem dL_coin_0 : decode cL_coin 0 = .ok (.aload_n 2, 1) := by decide +kernel
theorem dL_coin_1 : decode cL_coin 1 = .ok (.iconst 0, 1) := by decide +kernel
theorem dL_coin_2 : decode cL_coin 2 = .ok (.aload_n 0, 1) := by decide +kernel
theorem dL_coin_3 : decode cL_coin 3 = .ok (.iload_n 1, 1) := by decide +kernel
theorem dL_coin_4 : decode cL_coin 4 = .ok (.invokevirtual 24, 3) := by decide +kernel
theorem dL_coin_7 : decode cL_coin 7 = .ok (.i2l, 1) := by decide +kernel
theorem dL_coin_8 : decode cL_coin 8 = .ok (.lastore, 1) := by decide +kernel
theorem dL_coin_9 : decode cL_coin 9 = .ok (.goto 6, 3) := by decide +kernel
theorem dL_coin_12 : decode cL_coin 12 = .ok (.astore_n 3, 1) := by decide +kernel
theorem dL_coin_13 : decode cL_coin 13 = .ok (.iconst 1, 1) := by decide +kernel
theorem dL_coin_14 : decode cL_coin 14 = .ok (.ireturn, 1) := by decide +kernel
theorem dL_coin_15 : decode cL_coin 15 = .ok (.iconst 0, 1) := by decide +kernel
theorem dL_coin_16 : decode cL_coin 16 = .ok (.ireturn, 1) := by decide +kernel
theorem dL_isLeft_0 : decode cL_isLeft 0 = .ok (.aload_n 2, 1) := by decide +kernel
theorem dL_isLeft_1 : decode cL_isLeft 1 = .ok (.iconst 0, 1) := by decide +kernel
theorem dL_isLeft_2 : decode cL_isLeft 2 = .ok (.aload_n 0, 1) := by decide +kernel
theorem dL_isLeft_3 : decode cL_isLeft 3 = .ok (.iload_n 1, 1) := by decide +kernel
theorem dL_isLeft_4 : decode cL_isLeft 4 = .ok (.invokevirtual 29, 3) := by decide +kernel
theorem dL_isLeft_7 : decode cL_isLeft 7 = .ok (.i2l, 1) := by decide +kernel
theorem dL_isLeft_8 : decode cL_isLeft 8 = .ok (.lastore, 1) := by decide +kernel
theorem dL_isLeft_9 : decode cL_isLeft 9 = .ok (.goto 6, 3) := by decide +kernel
theorem dL_isLeft_12 : decode cL_isLeft 12 = .ok (.astore_n 3, 1) := by decide +kernel
theorem dL_isLeft_13 : decode cL_isLeft 13 = .ok (.iconst 1, 1) := by decide +kernel
theorem dL_isLeft_14 : decode cL_isLeft 14 = .ok (.ireturn, 1) := by decide +kernel
theorem dL_isLeft_15 : decode cL_isLeft 15 = .ok (.iconst 0, 1) := by decide +kernel
theorem dL_isLeft_16 : decode cL_isLeft 16 = .ok (.ireturn, 1) := by decide +kernel
theorem dL_weighing_0 : decode cL_weighing 0 = .ok (.aload_n 3, 1) := by decide +kernel
theorem dL_weighing_1 : decode cL_weighing 1 = .ok (.iconst 0, 1) := by decide +kernel
theorem dL_weighing_2 : decode cL_weighing 2 = .ok (.aload_n 0, 1) := by decide +kernel
theorem dL_weighing_3 : decode cL_weighing 3 = .ok (.iload_n 1, 1) := by decide +kernel
theorem dL_weighing_4 : decode cL_weighing 4 = .ok (.iload_n 2, 1) := by decide +kernel
theorem dL_weighing_5 : decode cL_weighing 5 = .ok (.invokevirtual 32, 3) := by decide +kernel
theorem dL_weighing_8 : decode cL_weighing 8 = .ok (.i2l, 1) := by decide +kernel
theorem dL_weighing_9 : decode cL_weighing 9 = .ok (.lastore, 1) := by decide +kernel
theorem dL_weighing_10 : decode cL_weighing 10 = .ok (.goto 11, 3) := by decide +kernel
theorem dL_weighing_13 : decode cL_weighing 13 = .ok (.astore 4, 2) := by decide +kernel
theorem dL_weighing_15 : decode cL_weighing 15 = .ok (.iconst 1, 1) := by decide +kernel
theorem dL_weighing_16 : decode cL_weighing 16 = .ok (.ireturn, 1) := by decide +kernel
theorem dL_weighing_17 : decode cL_weighing 17 = .ok (.astore 4, 2) := by decide +kernel
theorem dL_weighing_19 : decode cL_weighing 19 = .ok (.iconst 2, 1) := by decide +kernel
theorem dL_weighing_20 : decode cL_weighing 20 = .ok (.ireturn, 1) := by decide +kernel
theorem dL_weighing_21 : decode cL_weighing 21 = .ok (.iconst 0, 1) := by decide +kernel
theorem dL_weighing_22 : decode cL_weighing 22 = .ok (.ireturn, 1) := by decide +kernel
theorem dL_hide_0 : decode cL_hide 0 = .ok (.aload_n 3, 1) := by decide +kernel
theorem dL_hide_1 : decode cL_hide 1 = .ok (.iconst 0, 1) := by decide +kernel
theorem dL_hide_2 : decode cL_hide 2 = .ok (.aload_n 0, 1) := by decide +kernel
theorem dL_hide_3 : decode cL_hide 3 = .ok (.iload_n 1, 1) := by decide +kernel
theorem dL_hide_4 : decode cL_hide 4 = .ok (.iload_n 2, 1) := by decide +kernel
theorem dL_hide_5 : decode cL_hide 5 = .ok (.invokevirtual 36, 3) := by decide +kernel
theorem dL_hide_8 : decode cL_hide 8 = .ok (.i2l, 1) := by decide +kernel
theorem dL_hide_9 : decode cL_hide 9 = .ok (.lastore, 1) := by decide +kernel
theorem dL_hide_10 : decode cL_hide 10 = .ok (.goto 11, 3) := by decide +kernel
theorem dL_hide_13 : decode cL_hide 13 = .ok (.astore 4, 2) := by decide +kernel
theorem dL_hide_15 : decode cL_hide 15 = .ok (.iconst 1, 1) := by decide +kernel
theorem dL_hide_16 : decode cL_hide 16 = .ok (.ireturn, 1) := by decide +kernel
theorem dL_hide_17 : decode cL_hide 17 = .ok (.astore 4, 2) := by decide +kernel
theorem dL_hide_19 : decode cL_hide 19 = .ok (.iconst 2, 1) := by decide +kernel
theorem dL_hide_20 : decode cL_hide 20 = .ok (.ireturn, 1) := by decide +kernel
theorem dL_hide_21 : decode cL_hide 21 = .ok (.iconst 0, 1) := by decide +kernel
theorem dL_hide_22 : decode cL_hide 22 = .ok (.ireturn, 1) := by decide +kernel
theorem dL_arms_0 : decode cL_arms 0 = .ok (.aload_n 3, 1) := by decide +kernel
theorem dL_arms_1 : decode cL_arms 1 = .ok (.iconst 0, 1) := by decide +kernel
theorem dL_arms_2 : decode cL_arms 2 = .ok (.aload_n 0, 1) := by decide +kernel
theorem dL_arms_3 : decode cL_arms 3 = .ok (.iload_n 1, 1) := by decide +kernel
theorem dL_arms_4 : decode cL_arms 4 = .ok (.iload_n 2, 1) := by decide +kernel
theorem dL_arms_5 : decode cL_arms 5 = .ok (.invokevirtual 39, 3) := by decide +kernel
theorem dL_arms_8 : decode cL_arms 8 = .ok (.i2l, 1) := by decide +kernel
theorem dL_arms_9 : decode cL_arms 9 = .ok (.lastore, 1) := by decide +kernel
theorem dL_arms_10 : decode cL_arms 10 = .ok (.goto 7, 3) := by decide +kernel
theorem dL_arms_13 : decode cL_arms 13 = .ok (.astore 4, 2) := by decide +kernel
theorem dL_arms_15 : decode cL_arms 15 = .ok (.iconst 1, 1) := by decide +kernel
theorem dL_arms_16 : decode cL_arms 16 = .ok (.ireturn, 1) := by decide +kernel
theorem dL_arms_17 : decode cL_arms 17 = .ok (.iconst 0, 1) := by decide +kernel
theorem dL_arms_18 : decode cL_arms 18 = .ok (.ireturn, 1) := by decide +kernel
theorem dL_weigh_0 : decode cL_weigh 0 = .ok (.aload_n 3, 1) := by decide +kernel
theorem dL_weigh_1 : decode cL_weigh 1 = .ok (.iconst 0, 1) := by decide +kernel
theorem dL_weigh_2 : decode cL_weigh 2 = .ok (.aload_n 0, 1) := by decide +kernel
theorem dL_weigh_3 : decode cL_weigh 3 = .ok (.iload_n 1, 1) := by decide +kernel
theorem dL_weigh_4 : decode cL_weigh 4 = .ok (.iload_n 2, 1) := by decide +kernel
theorem dL_weigh_5 : decode cL_weigh 5 = .ok (.invokevirtual 42, 3) := by decide +kernel
theorem dL_weigh_8 : decode cL_weigh 8 = .ok (.i2l, 1) := by decide +kernel
theorem dL_weigh_9 : decode cL_weigh 9 = .ok (.lastore, 1) := by decide +kernel
theorem dL_weigh_10 : decode cL_weigh 10 = .ok (.goto 11, 3) := by decide +kernel
theorem dL_weigh_13 : decode cL_weigh 13 = .ok (.astore 4, 2) := by decide +kernel
theorem dL_weigh_15 : decode cL_weigh 15 = .ok (.iconst 1, 1) := by decide +kernel
theorem dL_weigh_16 : decode cL_weigh 16 = .ok (.ireturn, 1) := by decide +kernel
theorem dL_weigh_17 : decode cL_weigh 17 = .ok (.astore 4, 2) := by decide +kernel
theorem dL_weigh_19 : decode cL_weigh 19 = .ok (.iconst 2, 1) := by decide +kernel
theorem dL_weigh_20 : decode cL_weigh 20 = .ok (.ireturn, 1) := by decide +kernel
theorem dL_weigh_21 : decode cL_weigh 21 = .ok (.iconst 0, 1) := by decide +kernel
theorem dL_weigh_22 : decode cL_weigh 22 = .ok (.ireturn, 1) := by decide +kernel
theorem dL_accuse_0 : decode cL_accuse 0 = .ok (.aload_n 3, 1) := by decide +kernel
theorem dL_accuse_1 : decode cL_accuse 1 = .ok (.iconst 0, 1) := by decide +kernel
theorem dL_accuse_2 : decode cL_accuse 2 = .ok (.aload_n 0, 1) := by decide +kernel
theorem dL_accuse_3 : decode cL_accuse 3 = .ok (.iload_n 1, 1) := by decide +kernel
theorem dL_accuse_4 : decode cL_accuse 4 = .ok (.iload_n 2, 1) := by decide +kernel
theorem dL_accuse_5 : decode cL_accuse 5 = .ok (.invokevirtual 45, 3) := by decide +kernel
theorem dL_accuse_8 : decode cL_accuse 8 = .ok (.i2l, 1) := by decide +kernel
theorem dL_accuse_9 : decode cL_accuse 9 = .ok (.lastore, 1) := by decide +kernel
theorem dL_accuse_10 : decode cL_accuse 10 = .ok (.goto 7, 3) := by decide +kernel
theorem dL_accuse_13 : decode cL_accuse 13 = .ok (.astore 4, 2) := by decide +kernel
theorem dL_accuse_15 : decode cL_accuse 15 = .ok (.iconst 1, 1) := by decide +kernel
theorem dL_accuse_16 : decode cL_accuse 16 = .ok (.ireturn, 1) := by decide +kernel
theorem dL_accuse_17 : decode cL_accuse 17 = .ok (.iconst 0, 1) := by decide +kernel
theorem dL_accuse_18 : decode cL_accuse 18 = .ok (.ireturn, 1) := by decide +kernel
theorem dL_accusePan_0 : decode cL_accusePan 0 = .ok (.aload_n 2, 1) := by decide +kernel
theorem dL_accusePan_1 : decode cL_accusePan 1 = .ok (.iconst 0, 1) := by decide +kernel
theorem dL_accusePan_2 : decode cL_accusePan 2 = .ok (.aload_n 0, 1) := by decide +kernel
theorem dL_accusePan_3 : decode cL_accusePan 3 = .ok (.iload_n 1, 1) := by decide +kernel
theorem dL_accusePan_4 : decode cL_accusePan 4 = .ok (.invokevirtual 49, 3) := by decide +kernel
theorem dL_accusePan_7 : decode cL_accusePan 7 = .ok (.i2l, 1) := by decide +kernel
theorem dL_accusePan_8 : decode cL_accusePan 8 = .ok (.lastore, 1) := by decide +kernel
theorem dL_accusePan_9 : decode cL_accusePan 9 = .ok (.goto 6, 3) := by decide +kernel
theorem dL_accusePan_12 : decode cL_accusePan 12 = .ok (.astore_n 3, 1) := by decide +kernel
theorem dL_accusePan_13 : decode cL_accusePan 13 = .ok (.iconst 1, 1) := by decide +kernel
theorem dL_accusePan_14 : decode cL_accusePan 14 = .ok (.ireturn, 1) := by decide +kernel
theorem dL_accusePan_15 : decode cL_accusePan 15 = .ok (.iconst 0, 1) := by decide +kernel
theorem dL_accusePan_16 : decode cL_accusePan 16 = .ok (.ireturn, 1) := by decide +kernel
theorem dL_forget_0 : decode cL_forget 0 = .ok (.aload_n 1, 1) := by decide +kernel
theorem dL_forget_1 : decode cL_forget 1 = .ok (.iconst 0, 1) := by decide +kernel
theorem dL_forget_2 : decode cL_forget 2 = .ok (.aload_n 0, 1) := by decide +kernel
theorem dL_forget_3 : decode cL_forget 3 = .ok (.invokevirtual 52, 3) := by decide +kernel
theorem dL_forget_6 : decode cL_forget 6 = .ok (.i2l, 1) := by decide +kernel
theorem dL_forget_7 : decode cL_forget 7 = .ok (.lastore, 1) := by decide +kernel
theorem dL_forget_8 : decode cL_forget 8 = .ok (.goto 6, 3) := by decide +kernel
theorem dL_forget_11 : decode cL_forget 11 = .ok (.astore_n 2, 1) := by decide +kernel
theorem dL_forget_12 : decode cL_forget 12 = .ok (.iconst 1, 1) := by decide +kernel
theorem dL_forget_13 : decode cL_forget 13 = .ok (.ireturn, 1) := by decide +kernel
theorem dL_forget_14 : decode cL_forget 14 = .ok (.iconst 0, 1) := by decide +kernel
theorem dL_forget_15 : decode cL_forget 15 = .ok (.ireturn, 1) := by decide +kernel
theorem dL_undo_0 : decode cL_undo 0 = .ok (.aload_n 1, 1) := by decide +kernel
theorem dL_undo_1 : decode cL_undo 1 = .ok (.iconst 0, 1) := by decide +kernel
theorem dL_undo_2 : decode cL_undo 2 = .ok (.aload_n 0, 1) := by decide +kernel
theorem dL_undo_3 : decode cL_undo 3 = .ok (.invokevirtual 55, 3) := by decide +kernel
theorem dL_undo_6 : decode cL_undo 6 = .ok (.i2l, 1) := by decide +kernel
theorem dL_undo_7 : decode cL_undo 7 = .ok (.lastore, 1) := by decide +kernel
theorem dL_undo_8 : decode cL_undo 8 = .ok (.goto 6, 3) := by decide +kernel
theorem dL_undo_11 : decode cL_undo 11 = .ok (.astore_n 2, 1) := by decide +kernel
theorem dL_undo_12 : decode cL_undo 12 = .ok (.iconst 1, 1) := by decide +kernel
theorem dL_undo_13 : decode cL_undo 13 = .ok (.ireturn, 1) := by decide +kernel
theorem dL_undo_14 : decode cL_undo 14 = .ok (.iconst 0, 1) := by decide +kernel
theorem dL_undo_15 : decode cL_undo 15 = .ok (.ireturn, 1) := by decide +kernel
theorem dL_leaves_0 : decode cL_leaves 0 = .ok (.aload 4, 2) := by decide +kernel
theorem dL_leaves_2 : decode cL_leaves 2 = .ok (.iconst 0, 1) := by decide +kernel
theorem dL_leaves_3 : decode cL_leaves 3 = .ok (.aload_n 0, 1) := by decide +kernel
theorem dL_leaves_4 : decode cL_leaves 4 = .ok (.iload_n 1, 1) := by decide +kernel
theorem dL_leaves_5 : decode cL_leaves 5 = .ok (.iload_n 2, 1) := by decide +kernel
theorem dL_leaves_6 : decode cL_leaves 6 = .ok (.iload_n 3, 1) := by decide +kernel
theorem dL_leaves_7 : decode cL_leaves 7 = .ok (.invokevirtual 58, 3) := by decide +kernel
theorem dL_leaves_10 : decode cL_leaves 10 = .ok (.i2l, 1) := by decide +kernel
theorem dL_leaves_11 : decode cL_leaves 11 = .ok (.lastore, 1) := by decide +kernel
theorem dL_leaves_12 : decode cL_leaves 12 = .ok (.goto 11, 3) := by decide +kernel
theorem dL_leaves_15 : decode cL_leaves 15 = .ok (.astore 5, 2) := by decide +kernel
theorem dL_leaves_17 : decode cL_leaves 17 = .ok (.iconst 1, 1) := by decide +kernel
theorem dL_leaves_18 : decode cL_leaves 18 = .ok (.ireturn, 1) := by decide +kernel
theorem dL_leaves_19 : decode cL_leaves 19 = .ok (.astore 5, 2) := by decide +kernel
theorem dL_leaves_21 : decode cL_leaves 21 = .ok (.iconst 2, 1) := by decide +kernel
theorem dL_leaves_22 : decode cL_leaves 22 = .ok (.ireturn, 1) := by decide +kernel
theorem dL_leaves_23 : decode cL_leaves 23 = .ok (.iconst 0, 1) := by decide +kernel
theorem dL_leaves_24 : decode cL_leaves 24 = .ok (.ireturn, 1) := by decide +kernel
theorem dL_best_0 : decode cL_best 0 = .ok (.aload_n 3, 1) := by decide +kernel
theorem dL_best_1 : decode cL_best 1 = .ok (.iconst 0, 1) := by decide +kernel
theorem dL_best_2 : decode cL_best 2 = .ok (.aload_n 0, 1) := by decide +kernel
theorem dL_best_3 : decode cL_best 3 = .ok (.iload_n 1, 1) := by decide +kernel
theorem dL_best_4 : decode cL_best 4 = .ok (.iload_n 2, 1) := by decide +kernel
theorem dL_best_5 : decode cL_best 5 = .ok (.invokevirtual 62, 3) := by decide +kernel
theorem dL_best_8 : decode cL_best 8 = .ok (.i2l, 1) := by decide +kernel
theorem dL_best_9 : decode cL_best 9 = .ok (.lastore, 1) := by decide +kernel
theorem dL_best_10 : decode cL_best 10 = .ok (.goto 7, 3) := by decide +kernel
theorem dL_best_13 : decode cL_best 13 = .ok (.astore 4, 2) := by decide +kernel
theorem dL_best_15 : decode cL_best 15 = .ok (.iconst 1, 1) := by decide +kernel
theorem dL_best_16 : decode cL_best 16 = .ok (.ireturn, 1) := by decide +kernel
theorem dL_best_17 : decode cL_best 17 = .ok (.iconst 0, 1) := by decide +kernel
theorem dL_best_18 : decode cL_best 18 = .ok (.ireturn, 1) := by decide +kernel
theorem dL_bestArms_0 : decode cL_bestArms 0 = .ok (.aload_n 3, 1) := by decide +kernel
theorem dL_bestArms_1 : decode cL_bestArms 1 = .ok (.iconst 0, 1) := by decide +kernel
theorem dL_bestArms_2 : decode cL_bestArms 2 = .ok (.aload_n 0, 1) := by decide +kernel
theorem dL_bestArms_3 : decode cL_bestArms 3 = .ok (.iload_n 1, 1) := by decide +kernel
theorem dL_bestArms_4 : decode cL_bestArms 4 = .ok (.iload_n 2, 1) := by decide +kernel
theorem dL_bestArms_5 : decode cL_bestArms 5 = .ok (.invokevirtual 65, 3) := by decide +kernel
theorem dL_bestArms_8 : decode cL_bestArms 8 = .ok (.i2l, 1) := by decide +kernel
theorem dL_bestArms_9 : decode cL_bestArms 9 = .ok (.lastore, 1) := by decide +kernel
theorem dL_bestArms_10 : decode cL_bestArms 10 = .ok (.goto 7, 3) := by decide +kernel
theorem dL_bestArms_13 : decode cL_bestArms 13 = .ok (.astore 4, 2) := by decide +kernel
theorem dL_bestArms_15 : decode cL_bestArms 15 = .ok (.iconst 1, 1) := by decide +kernel
theorem dL_bestArms_16 : decode cL_bestArms 16 = .ok (.ireturn, 1) := by decide +kernel
theorem dL_bestArms_17 : decode cL_bestArms 17 = .ok (.iconst 0, 1) := by decide +kernel
theorem dL_bestArms_18 : decode cL_bestArms 18 = .ok (.ireturn, 1) := by decide +kernel
theorem dL_runScript_0 : decode cL_runScript 0 = .ok (.aload 4, 2) := by decide +kernel
theorem dL_runScript_2 : decode cL_runScript 2 = .ok (.iconst 0, 1) := by decide +kernel
theorem dL_runScript_3 : decode cL_runScript 3 = .ok (.aload_n 0, 1) := by decide +kernel
theorem dL_runScript_4 : decode cL_runScript 4 = .ok (.iload_n 1, 1) := by decide +kernel
theorem dL_runScript_5 : decode cL_runScript 5 = .ok (.lload_n 2, 1) := by decide +kernel
theorem dL_runScript_6 : decode cL_runScript 6 = .ok (.invokevirtual 68, 3) := by decide +kernel
theorem dL_runScript_9 : decode cL_runScript 9 = .ok (.i2l, 1) := by decide +kernel
theorem dL_runScript_10 : decode cL_runScript 10 = .ok (.lastore, 1) := by decide +kernel
theorem dL_runScript_11 : decode cL_runScript 11 = .ok (.goto 7, 3) := by decide +kernel
theorem dL_runScript_14 : decode cL_runScript 14 = .ok (.astore 5, 2) := by decide +kernel
theorem dL_runScript_16 : decode cL_runScript 16 = .ok (.iconst 1, 1) := by decide +kernel
theorem dL_runScript_17 : decode cL_runScript 17 = .ok (.ireturn, 1) := by decide +kernel
theorem dL_runScript_18 : decode cL_runScript 18 = .ok (.iconst 0, 1) := by decide +kernel
theorem dL_runScript_19 : decode cL_runScript 19 = .ok (.ireturn, 1) := by decide +kernel
theorem dL_simulate_0 : decode cL_simulate 0 = .ok (.aload 4, 2) := by decide +kernel
theorem dL_simulate_2 : decode cL_simulate 2 = .ok (.iconst 0, 1) := by decide +kernel
theorem dL_simulate_3 : decode cL_simulate 3 = .ok (.aload_n 0, 1) := by decide +kernel
theorem dL_simulate_4 : decode cL_simulate 4 = .ok (.lload_n 1, 1) := by decide +kernel
theorem dL_simulate_5 : decode cL_simulate 5 = .ok (.iload_n 3, 1) := by decide +kernel
theorem dL_simulate_6 : decode cL_simulate 6 = .ok (.invokevirtual 72, 3) := by decide +kernel
theorem dL_simulate_9 : decode cL_simulate 9 = .ok (.i2l, 1) := by decide +kernel
theorem dL_simulate_10 : decode cL_simulate 10 = .ok (.lastore, 1) := by decide +kernel
theorem dL_simulate_11 : decode cL_simulate 11 = .ok (.goto 7, 3) := by decide +kernel
theorem dL_simulate_14 : decode cL_simulate 14 = .ok (.astore 5, 2) := by decide +kernel
theorem dL_simulate_16 : decode cL_simulate 16 = .ok (.iconst 1, 1) := by decide +kernel
theorem dL_simulate_17 : decode cL_simulate 17 = .ok (.ireturn, 1) := by decide +kernel
theorem dL_simulate_18 : decode cL_simulate 18 = .ok (.iconst 0, 1) := by decide +kernel
theorem dL_simulate_19 : decode cL_simulate 19 = .ok (.ireturn, 1) := by decide +kernel
theorem dL_save_0 : decode cL_save 0 = .ok (.aload_n 2, 1) := by decide +kernel
theorem dL_save_1 : decode cL_save 1 = .ok (.iconst 0, 1) := by decide +kernel
theorem dL_save_2 : decode cL_save 2 = .ok (.aload_n 0, 1) := by decide +kernel
theorem dL_save_3 : decode cL_save 3 = .ok (.iload_n 1, 1) := by decide +kernel
theorem dL_save_4 : decode cL_save 4 = .ok (.invokevirtual 76, 3) := by decide +kernel
theorem dL_save_7 : decode cL_save 7 = .ok (.i2l, 1) := by decide +kernel
theorem dL_save_8 : decode cL_save 8 = .ok (.lastore, 1) := by decide +kernel
theorem dL_save_9 : decode cL_save 9 = .ok (.goto 6, 3) := by decide +kernel
theorem dL_save_12 : decode cL_save 12 = .ok (.astore_n 3, 1) := by decide +kernel
theorem dL_save_13 : decode cL_save 13 = .ok (.iconst 1, 1) := by decide +kernel
theorem dL_save_14 : decode cL_save 14 = .ok (.ireturn, 1) := by decide +kernel
theorem dL_save_15 : decode cL_save 15 = .ok (.iconst 0, 1) := by decide +kernel
theorem dL_save_16 : decode cL_save 16 = .ok (.ireturn, 1) := by decide +kernel
theorem dL_restore_0 : decode cL_restore 0 = .ok (.aload_n 2, 1) := by decide +kernel
theorem dL_restore_1 : decode cL_restore 1 = .ok (.iconst 0, 1) := by decide +kernel
theorem dL_restore_2 : decode cL_restore 2 = .ok (.aload_n 0, 1) := by decide +kernel
theorem dL_restore_3 : decode cL_restore 3 = .ok (.iload_n 1, 1) := by decide +kernel
theorem dL_restore_4 : decode cL_restore 4 = .ok (.invokevirtual 79, 3) := by decide +kernel
theorem dL_restore_7 : decode cL_restore 7 = .ok (.i2l, 1) := by decide +kernel
theorem dL_restore_8 : decode cL_restore 8 = .ok (.lastore, 1) := by decide +kernel
theorem dL_restore_9 : decode cL_restore 9 = .ok (.goto 9, 3) := by decide +kernel
theorem dL_restore_12 : decode cL_restore 12 = .ok (.astore_n 3, 1) := by decide +kernel
theorem dL_restore_13 : decode cL_restore 13 = .ok (.iconst 1, 1) := by decide +kernel
theorem dL_restore_14 : decode cL_restore 14 = .ok (.ireturn, 1) := by decide +kernel
theorem dL_restore_15 : decode cL_restore 15 = .ok (.astore_n 3, 1) := by decide +kernel
theorem dL_restore_16 : decode cL_restore 16 = .ok (.iconst 2, 1) := by decide +kernel
theorem dL_restore_17 : decode cL_restore 17 = .ok (.ireturn, 1) := by decide +kernel
theorem dL_restore_18 : decode cL_restore 18 = .ok (.iconst 0, 1) := by decide +kernel
theorem dL_restore_19 : decode cL_restore 19 = .ok (.ireturn, 1) := by decide +kernel
theorem dL_law_0 : decode cL_law 0 = .ok (.new 8, 3) := by decide +kernel
theorem dL_law_3 : decode cL_law 3 = .ok (.dup, 1) := by decide +kernel
theorem dL_law_4 : decode cL_law 4 = .ok (.invokespecial 82, 3) := by decide +kernel
theorem dL_law_7 : decode cL_law 7 = .ok (.astore_n 1, 1) := by decide +kernel
theorem dL_law_8 : decode cL_law 8 = .ok (.new 83, 3) := by decide +kernel
theorem dL_law_11 : decode cL_law 11 = .ok (.dup, 1) := by decide +kernel
theorem dL_law_12 : decode cL_law 12 = .ok (.invokespecial 85, 3) := by decide +kernel
theorem dL_law_15 : decode cL_law 15 = .ok (.astore_n 2, 1) := by decide +kernel
theorem dL_law_16 : decode cL_law 16 = .ok (.iconst 1, 1) := by decide +kernel
theorem dL_law_17 : decode cL_law 17 = .ok (.newarray .long, 2) := by decide +kernel
theorem dL_law_19 : decode cL_law 19 = .ok (.astore_n 3, 1) := by decide +kernel
theorem dL_law_20 : decode cL_law 20 = .ok (.iconst 0, 1) := by decide +kernel
theorem dL_law_21 : decode cL_law 21 = .ok (.istore 4, 2) := by decide +kernel
theorem dL_law_23 : decode cL_law 23 = .ok (.iload 4, 2) := by decide +kernel
theorem dL_law_25 : decode cL_law 25 = .ok (.aload_n 0, 1) := by decide +kernel
theorem dL_law_26 : decode cL_law 26 = .ok (.arraylength, 1) := by decide +kernel
theorem dL_law_27 : decode cL_law 27 = .ok (.iconst 4, 1) := by decide +kernel
theorem dL_law_28 : decode cL_law 28 = .ok (.isub, 1) := by decide +kernel
theorem dL_law_29 : decode cL_law 29 = .ok (.if_icmp .gt 1490, 3) := by decide +kernel
theorem dL_law_32 : decode cL_law 32 = .ok (.aload_n 0, 1) := by decide +kernel
theorem dL_law_33 : decode cL_law 33 = .ok (.iload 4, 2) := by decide +kernel
theorem dL_law_35 : decode cL_law 35 = .ok (.iaload, 1) := by decide +kernel
theorem dL_law_36 : decode cL_law 36 = .ok (.bipush 31, 2) := by decide +kernel
theorem dL_law_38 : decode cL_law 38 = .ok (.iand, 1) := by decide +kernel
theorem dL_law_39 : decode cL_law 39 = .ok (.tableswitch 1474 0 24 #[113, 169, 182, 195, 239, 295, 351, 364, 420, 488, 556, 624, 692, 776, 832, 876, 920, 1000, 1068, 1081, 1094, 1162, 1262, 1362, 1418], 113) := by decide +kernel
theorem dL_law_152 : decode cL_law 152 = .ok (.aload_n 1, 1) := by decide +kernel
theorem dL_law_153 : decode cL_law 153 = .ok (.aload_n 0, 1) := by decide +kernel
theorem dL_law_154 : decode cL_law 154 = .ok (.iload 4, 2) := by decide +kernel
theorem dL_law_156 : decode cL_law 156 = .ok (.iconst 1, 1) := by decide +kernel
theorem dL_law_157 : decode cL_law 157 = .ok (.iadd, 1) := by decide +kernel
theorem dL_law_158 : decode cL_law 158 = .ok (.iaload, 1) := by decide +kernel
theorem dL_law_159 : decode cL_law 159 = .ok (.aload_n 3, 1) := by decide +kernel
theorem dL_law_160 : decode cL_law 160 = .ok (.invokestatic 86, 3) := by decide +kernel
theorem dL_law_163 : decode cL_law 163 = .ok (.istore 5, 2) := by decide +kernel
theorem dL_law_165 : decode cL_law 165 = .ok (.aload_n 2, 1) := by decide +kernel
theorem dL_law_166 : decode cL_law 166 = .ok (.aload_n 0, 1) := by decide +kernel
theorem dL_law_167 : decode cL_law 167 = .ok (.iload 4, 2) := by decide +kernel
theorem dL_law_169 : decode cL_law 169 = .ok (.iconst 1, 1) := by decide +kernel
theorem dL_law_170 : decode cL_law 170 = .ok (.iadd, 1) := by decide +kernel
theorem dL_law_171 : decode cL_law 171 = .ok (.iaload, 1) := by decide +kernel
theorem dL_law_172 : decode cL_law 172 = .ok (.invokevirtual 91, 3) := by decide +kernel
theorem dL_law_175 : decode cL_law 175 = .ok (.istore 6, 2) := by decide +kernel
theorem dL_law_177 : decode cL_law 177 = .ok (.aload_n 2, 1) := by decide +kernel
theorem dL_law_178 : decode cL_law 178 = .ok (.invokevirtual 92, 3) := by decide +kernel
theorem dL_law_181 : decode cL_law 181 = .ok (.iload 5, 2) := by decide +kernel
theorem dL_law_183 : decode cL_law 183 = .ok (.if_icmp .eq 5, 3) := by decide +kernel
theorem dL_law_186 : decode cL_law 186 = .ok (.iconst 0, 1) := by decide +kernel
theorem dL_law_187 : decode cL_law 187 = .ok (.ireturn, 1) := by decide +kernel
theorem dL_law_188 : decode cL_law 188 = .ok (.iload 5, 2) := by decide +kernel
theorem dL_law_190 : decode cL_law 190 = .ok (.ifCond .ne 15, 3) := by decide +kernel
theorem dL_law_193 : decode cL_law 193 = .ok (.aload_n 3, 1) := by decide +kernel
theorem dL_law_194 : decode cL_law 194 = .ok (.iconst 0, 1) := by decide +kernel
theorem dL_law_195 : decode cL_law 195 = .ok (.laload, 1) := by decide +kernel
theorem dL_law_196 : decode cL_law 196 = .ok (.iload 6, 2) := by decide +kernel
theorem dL_law_198 : decode cL_law 198 = .ok (.i2l, 1) := by decide +kernel
theorem dL_law_199 : decode cL_law 199 = .ok (.lcmp, 1) := by decide +kernel
theorem dL_law_200 : decode cL_law 200 = .ok (.ifCond .eq 5, 3) := by decide +kernel
theorem dL_law_203 : decode cL_law 203 = .ok (.iconst 0, 1) := by decide +kernel
theorem dL_law_204 : decode cL_law 204 = .ok (.ireturn, 1) := by decide +kernel
theorem dL_law_205 : decode cL_law 205 = .ok (.goto 1308, 3) := by decide +kernel
theorem dL_law_208 : decode cL_law 208 = .ok (.aload_n 1, 1) := by decide +kernel
theorem dL_law_209 : decode cL_law 209 = .ok (.invokevirtual 95, 3) := by decide +kernel
theorem dL_law_212 : decode cL_law 212 = .ok (.aload_n 2, 1) := by decide +kernel
theorem dL_law_213 : decode cL_law 213 = .ok (.invokevirtual 98, 3) := by decide +kernel
theorem dL_law_216 : decode cL_law 216 = .ok (.if_icmp .eq 1297, 3) := by decide +kernel
theorem dL_law_219 : decode cL_law 219 = .ok (.iconst 0, 1) := by decide +kernel
theorem dL_law_220 : decode cL_law 220 = .ok (.ireturn, 1) := by decide +kernel
theorem dL_law_221 : decode cL_law 221 = .ok (.aload_n 1, 1) := by decide +kernel
theorem dL_law_222 : decode cL_law 222 = .ok (.invokevirtual 99, 3) := by decide +kernel
theorem dL_law_225 : decode cL_law 225 = .ok (.aload_n 2, 1) := by decide +kernel
theorem dL_law_226 : decode cL_law 226 = .ok (.invokevirtual 102, 3) := by decide +kernel
theorem dL_law_229 : decode cL_law 229 = .ok (.if_icmp .eq 1284, 3) := by decide +kernel
theorem dL_law_232 : decode cL_law 232 = .ok (.iconst 0, 1) := by decide +kernel
theorem dL_law_233 : decode cL_law 233 = .ok (.ireturn, 1) := by decide +kernel
theorem dL_law_234 : decode cL_law 234 = .ok (.aload_n 1, 1) := by decide +kernel
theorem dL_law_235 : decode cL_law 235 = .ok (.aload_n 3, 1) := by decide +kernel
theorem dL_law_236 : decode cL_law 236 = .ok (.invokestatic 103, 3) := by decide +kernel
theorem dL_law_239 : decode cL_law 239 = .ok (.istore 5, 2) := by decide +kernel
theorem dL_law_241 : decode cL_law 241 = .ok (.aload_n 2, 1) := by decide +kernel
theorem dL_law_242 : decode cL_law 242 = .ok (.invokevirtual 106, 3) := by decide +kernel
theorem dL_law_245 : decode cL_law 245 = .ok (.istore 6, 2) := by decide +kernel
theorem dL_law_247 : decode cL_law 247 = .ok (.aload_n 2, 1) := by decide +kernel
theorem dL_law_248 : decode cL_law 248 = .ok (.invokevirtual 92, 3) := by decide +kernel
theorem dL_law_251 : decode cL_law 251 = .ok (.iload 5, 2) := by decide +kernel
theorem dL_law_253 : decode cL_law 253 = .ok (.if_icmp .eq 5, 3) := by decide +kernel
theorem dL_law_256 : decode cL_law 256 = .ok (.iconst 0, 1) := by decide +kernel
theorem dL_law_257 : decode cL_law 257 = .ok (.ireturn, 1) := by decide +kernel
theorem dL_law_258 : decode cL_law 258 = .ok (.iload 5, 2) := by decide +kernel
theorem dL_law_260 : decode cL_law 260 = .ok (.ifCond .ne 15, 3) := by decide +kernel
theorem dL_law_263 : decode cL_law 263 = .ok (.aload_n 3, 1) := by decide +kernel
theorem dL_law_264 : decode cL_law 264 = .ok (.iconst 0, 1) := by decide +kernel
theorem dL_law_265 : decode cL_law 265 = .ok (.laload, 1) := by decide +kernel
theorem dL_law_266 : decode cL_law 266 = .ok (.iload 6, 2) := by decide +kernel
theorem dL_law_268 : decode cL_law 268 = .ok (.i2l, 1) := by decide +kernel
theorem dL_law_269 : decode cL_law 269 = .ok (.lcmp, 1) := by decide +kernel
theorem dL_law_270 : decode cL_law 270 = .ok (.ifCond .eq 5, 3) := by decide +kernel
theorem dL_law_273 : decode cL_law 273 = .ok (.iconst 0, 1) := by decide +kernel
theorem dL_law_274 : decode cL_law 274 = .ok (.ireturn, 1) := by decide +kernel
theorem dL_law_275 : decode cL_law 275 = .ok (.goto 1238, 3) := by decide +kernel
theorem dL_law_278 : decode cL_law 278 = .ok (.aload_n 1, 1) := by decide +kernel
theorem dL_law_279 : decode cL_law 279 = .ok (.aload_n 0, 1) := by decide +kernel
theorem dL_law_280 : decode cL_law 280 = .ok (.iload 4, 2) := by decide +kernel
theorem dL_law_282 : decode cL_law 282 = .ok (.iconst 1, 1) := by decide +kernel
theorem dL_law_283 : decode cL_law 283 = .ok (.iadd, 1) := by decide +kernel
theorem dL_law_284 : decode cL_law 284 = .ok (.iaload, 1) := by decide +kernel
theorem dL_law_285 : decode cL_law 285 = .ok (.aload_n 3, 1) := by decide +kernel
theorem dL_law_286 : decode cL_law 286 = .ok (.invokestatic 107, 3) := by decide +kernel
theorem dL_law_289 : decode cL_law 289 = .ok (.istore 5, 2) := by decide +kernel
theorem dL_law_291 : decode cL_law 291 = .ok (.aload_n 2, 1) := by decide +kernel
theorem dL_law_292 : decode cL_law 292 = .ok (.aload_n 0, 1) := by decide +kernel
theorem dL_law_293 : decode cL_law 293 = .ok (.iload 4, 2) := by decide +kernel
theorem dL_law_295 : decode cL_law 295 = .ok (.iconst 1, 1) := by decide +kernel
theorem dL_law_296 : decode cL_law 296 = .ok (.iadd, 1) := by decide +kernel
theorem dL_law_297 : decode cL_law 297 = .ok (.iaload, 1) := by decide +kernel
theorem dL_law_298 : decode cL_law 298 = .ok (.invokevirtual 109, 3) := by decide +kernel
theorem dL_law_301 : decode cL_law 301 = .ok (.istore 6, 2) := by decide +kernel
theorem dL_law_303 : decode cL_law 303 = .ok (.aload_n 2, 1) := by decide +kernel
theorem dL_law_304 : decode cL_law 304 = .ok (.invokevirtual 92, 3) := by decide +kernel
theorem dL_law_307 : decode cL_law 307 = .ok (.iload 5, 2) := by decide +kernel
theorem dL_law_309 : decode cL_law 309 = .ok (.if_icmp .eq 5, 3) := by decide +kernel
theorem dL_law_312 : decode cL_law 312 = .ok (.iconst 0, 1) := by decide +kernel
theorem dL_law_313 : decode cL_law 313 = .ok (.ireturn, 1) := by decide +kernel
theorem dL_law_314 : decode cL_law 314 = .ok (.iload 5, 2) := by decide +kernel
theorem dL_law_316 : decode cL_law 316 = .ok (.ifCond .ne 15, 3) := by decide +kernel
theorem dL_law_319 : decode cL_law 319 = .ok (.aload_n 3, 1) := by decide +kernel
theorem dL_law_320 : decode cL_law 320 = .ok (.iconst 0, 1) := by decide +kernel
theorem dL_law_321 : decode cL_law 321 = .ok (.laload, 1) := by decide +kernel
theorem dL_law_322 : decode cL_law 322 = .ok (.iload 6, 2) := by decide +kernel
theorem dL_law_324 : decode cL_law 324 = .ok (.i2l, 1) := by decide +kernel
theorem dL_law_325 : decode cL_law 325 = .ok (.lcmp, 1) := by decide +kernel
theorem dL_law_326 : decode cL_law 326 = .ok (.ifCond .eq 5, 3) := by decide +kernel
theorem dL_law_329 : decode cL_law 329 = .ok (.iconst 0, 1) := by decide +kernel
theorem dL_law_330 : decode cL_law 330 = .ok (.ireturn, 1) := by decide +kernel
theorem dL_law_331 : decode cL_law 331 = .ok (.goto 1182, 3) := by decide +kernel
theorem dL_law_334 : decode cL_law 334 = .ok (.aload_n 1, 1) := by decide +kernel
theorem dL_law_335 : decode cL_law 335 = .ok (.aload_n 0, 1) := by decide +kernel
theorem dL_law_336 : decode cL_law 336 = .ok (.iload 4, 2) := by decide +kernel
theorem dL_law_338 : decode cL_law 338 = .ok (.iconst 1, 1) := by decide +kernel
theorem dL_law_339 : decode cL_law 339 = .ok (.iadd, 1) := by decide +kernel
theorem dL_law_340 : decode cL_law 340 = .ok (.iaload, 1) := by decide +kernel
theorem dL_law_341 : decode cL_law 341 = .ok (.aload_n 3, 1) := by decide +kernel
theorem dL_law_342 : decode cL_law 342 = .ok (.invokestatic 110, 3) := by decide +kernel
theorem dL_law_345 : decode cL_law 345 = .ok (.istore 5, 2) := by decide +kernel
theorem dL_law_347 : decode cL_law 347 = .ok (.aload_n 2, 1) := by decide +kernel
theorem dL_law_348 : decode cL_law 348 = .ok (.aload_n 0, 1) := by decide +kernel
theorem dL_law_349 : decode cL_law 349 = .ok (.iload 4, 2) := by decide +kernel
theorem dL_law_351 : decode cL_law 351 = .ok (.iconst 1, 1) := by decide +kernel
theorem dL_law_352 : decode cL_law 352 = .ok (.iadd, 1) := by decide +kernel
theorem dL_law_353 : decode cL_law 353 = .ok (.iaload, 1) := by decide +kernel
theorem dL_law_354 : decode cL_law 354 = .ok (.invokevirtual 112, 3) := by decide +kernel
theorem dL_law_357 : decode cL_law 357 = .ok (.istore 6, 2) := by decide +kernel
theorem dL_law_359 : decode cL_law 359 = .ok (.aload_n 2, 1) := by decide +kernel
theorem dL_law_360 : decode cL_law 360 = .ok (.invokevirtual 92, 3) := by decide +kernel
theorem dL_law_363 : decode cL_law 363 = .ok (.iload 5, 2) := by decide +kernel
theorem dL_law_365 : decode cL_law 365 = .ok (.if_icmp .eq 5, 3) := by decide +kernel
theorem dL_law_368 : decode cL_law 368 = .ok (.iconst 0, 1) := by decide +kernel
theorem dL_law_369 : decode cL_law 369 = .ok (.ireturn, 1) := by decide +kernel
theorem dL_law_370 : decode cL_law 370 = .ok (.iload 5, 2) := by decide +kernel
theorem dL_law_372 : decode cL_law 372 = .ok (.ifCond .ne 15, 3) := by decide +kernel
theorem dL_law_375 : decode cL_law 375 = .ok (.aload_n 3, 1) := by decide +kernel
theorem dL_law_376 : decode cL_law 376 = .ok (.iconst 0, 1) := by decide +kernel
theorem dL_law_377 : decode cL_law 377 = .ok (.laload, 1) := by decide +kernel
theorem dL_law_378 : decode cL_law 378 = .ok (.iload 6, 2) := by decide +kernel
theorem dL_law_380 : decode cL_law 380 = .ok (.i2l, 1) := by decide +kernel
theorem dL_law_381 : decode cL_law 381 = .ok (.lcmp, 1) := by decide +kernel
theorem dL_law_382 : decode cL_law 382 = .ok (.ifCond .eq 5, 3) := by decide +kernel
theorem dL_law_385 : decode cL_law 385 = .ok (.iconst 0, 1) := by decide +kernel
theorem dL_law_386 : decode cL_law 386 = .ok (.ireturn, 1) := by decide +kernel
theorem dL_law_387 : decode cL_law 387 = .ok (.goto 1126, 3) := by decide +kernel
theorem dL_law_390 : decode cL_law 390 = .ok (.aload_n 1, 1) := by decide +kernel
theorem dL_law_391 : decode cL_law 391 = .ok (.invokevirtual 113, 3) := by decide +kernel
theorem dL_law_394 : decode cL_law 394 = .ok (.aload_n 2, 1) := by decide +kernel
theorem dL_law_395 : decode cL_law 395 = .ok (.invokevirtual 116, 3) := by decide +kernel
theorem dL_law_398 : decode cL_law 398 = .ok (.if_icmp .eq 1115, 3) := by decide +kernel
theorem dL_law_401 : decode cL_law 401 = .ok (.iconst 0, 1) := by decide +kernel
theorem dL_law_402 : decode cL_law 402 = .ok (.ireturn, 1) := by decide +kernel
theorem dL_law_403 : decode cL_law 403 = .ok (.aload_n 1, 1) := by decide +kernel
theorem dL_law_404 : decode cL_law 404 = .ok (.aload_n 0, 1) := by decide +kernel
theorem dL_law_405 : decode cL_law 405 = .ok (.iload 4, 2) := by decide +kernel
theorem dL_law_407 : decode cL_law 407 = .ok (.iconst 1, 1) := by decide +kernel
theorem dL_law_408 : decode cL_law 408 = .ok (.iadd, 1) := by decide +kernel
theorem dL_law_409 : decode cL_law 409 = .ok (.iaload, 1) := by decide +kernel
theorem dL_law_410 : decode cL_law 410 = .ok (.aload_n 3, 1) := by decide +kernel
theorem dL_law_411 : decode cL_law 411 = .ok (.invokestatic 117, 3) := by decide +kernel
theorem dL_law_414 : decode cL_law 414 = .ok (.istore 5, 2) := by decide +kernel
theorem dL_law_416 : decode cL_law 416 = .ok (.aload_n 2, 1) := by decide +kernel
theorem dL_law_417 : decode cL_law 417 = .ok (.aload_n 0, 1) := by decide +kernel
theorem dL_law_418 : decode cL_law 418 = .ok (.iload 4, 2) := by decide +kernel
theorem dL_law_420 : decode cL_law 420 = .ok (.iconst 1, 1) := by decide +kernel
theorem dL_law_421 : decode cL_law 421 = .ok (.iadd, 1) := by decide +kernel
theorem dL_law_422 : decode cL_law 422 = .ok (.iaload, 1) := by decide +kernel
theorem dL_law_423 : decode cL_law 423 = .ok (.invokevirtual 119, 3) := by decide +kernel
theorem dL_law_426 : decode cL_law 426 = .ok (.istore 6, 2) := by decide +kernel
theorem dL_law_428 : decode cL_law 428 = .ok (.aload_n 2, 1) := by decide +kernel
theorem dL_law_429 : decode cL_law 429 = .ok (.invokevirtual 92, 3) := by decide +kernel
theorem dL_law_432 : decode cL_law 432 = .ok (.iload 5, 2) := by decide +kernel
theorem dL_law_434 : decode cL_law 434 = .ok (.if_icmp .eq 5, 3) := by decide +kernel
theorem dL_law_437 : decode cL_law 437 = .ok (.iconst 0, 1) := by decide +kernel
theorem dL_law_438 : decode cL_law 438 = .ok (.ireturn, 1) := by decide +kernel
theorem dL_law_439 : decode cL_law 439 = .ok (.iload 5, 2) := by decide +kernel
theorem dL_law_441 : decode cL_law 441 = .ok (.ifCond .ne 15, 3) := by decide +kernel
theorem dL_law_444 : decode cL_law 444 = .ok (.aload_n 3, 1) := by decide +kernel
theorem dL_law_445 : decode cL_law 445 = .ok (.iconst 0, 1) := by decide +kernel
theorem dL_law_446 : decode cL_law 446 = .ok (.laload, 1) := by decide +kernel
theorem dL_law_447 : decode cL_law 447 = .ok (.iload 6, 2) := by decide +kernel
theorem dL_law_449 : decode cL_law 449 = .ok (.i2l, 1) := by decide +kernel
theorem dL_law_450 : decode cL_law 450 = .ok (.lcmp, 1) := by decide +kernel
theorem dL_law_451 : decode cL_law 451 = .ok (.ifCond .eq 5, 3) := by decide +kernel
theorem dL_law_454 : decode cL_law 454 = .ok (.iconst 0, 1) := by decide +kernel
theorem dL_law_455 : decode cL_law 455 = .ok (.ireturn, 1) := by decide +kernel
theorem dL_law_456 : decode cL_law 456 = .ok (.goto 1057, 3) := by decide +kernel
theorem dL_law_459 : decode cL_law 459 = .ok (.aload_n 1, 1) := by decide +kernel
theorem dL_law_460 : decode cL_law 460 = .ok (.aload_n 0, 1) := by decide +kernel
theorem dL_law_461 : decode cL_law 461 = .ok (.iload 4, 2) := by decide +kernel
theorem dL_law_463 : decode cL_law 463 = .ok (.iconst 1, 1) := by decide +kernel
theorem dL_law_464 : decode cL_law 464 = .ok (.iadd, 1) := by decide +kernel
theorem dL_law_465 : decode cL_law 465 = .ok (.iaload, 1) := by decide +kernel
theorem dL_law_466 : decode cL_law 466 = .ok (.aload_n 0, 1) := by decide +kernel
theorem dL_law_467 : decode cL_law 467 = .ok (.iload 4, 2) := by decide +kernel
theorem dL_law_469 : decode cL_law 469 = .ok (.iconst 2, 1) := by decide +kernel
theorem dL_law_470 : decode cL_law 470 = .ok (.iadd, 1) := by decide +kernel
theorem dL_law_471 : decode cL_law 471 = .ok (.iaload, 1) := by decide +kernel
theorem dL_law_472 : decode cL_law 472 = .ok (.aload_n 3, 1) := by decide +kernel
theorem dL_law_473 : decode cL_law 473 = .ok (.invokestatic 120, 3) := by decide +kernel
theorem dL_law_476 : decode cL_law 476 = .ok (.istore 5, 2) := by decide +kernel
theorem dL_law_478 : decode cL_law 478 = .ok (.aload_n 2, 1) := by decide +kernel
theorem dL_law_479 : decode cL_law 479 = .ok (.aload_n 0, 1) := by decide +kernel
theorem dL_law_480 : decode cL_law 480 = .ok (.iload 4, 2) := by decide +kernel
theorem dL_law_482 : decode cL_law 482 = .ok (.iconst 1, 1) := by decide +kernel
theorem dL_law_483 : decode cL_law 483 = .ok (.iadd, 1) := by decide +kernel
theorem dL_law_484 : decode cL_law 484 = .ok (.iaload, 1) := by decide +kernel
theorem dL_law_485 : decode cL_law 485 = .ok (.aload_n 0, 1) := by decide +kernel
theorem dL_law_486 : decode cL_law 486 = .ok (.iload 4, 2) := by decide +kernel
theorem dL_law_488 : decode cL_law 488 = .ok (.iconst 2, 1) := by decide +kernel
theorem dL_law_489 : decode cL_law 489 = .ok (.iadd, 1) := by decide +kernel
theorem dL_law_490 : decode cL_law 490 = .ok (.iaload, 1) := by decide +kernel
theorem dL_law_491 : decode cL_law 491 = .ok (.invokevirtual 123, 3) := by decide +kernel
theorem dL_law_494 : decode cL_law 494 = .ok (.istore 6, 2) := by decide +kernel
theorem dL_law_496 : decode cL_law 496 = .ok (.aload_n 2, 1) := by decide +kernel
theorem dL_law_497 : decode cL_law 497 = .ok (.invokevirtual 92, 3) := by decide +kernel
theorem dL_law_500 : decode cL_law 500 = .ok (.iload 5, 2) := by decide +kernel
theorem dL_law_502 : decode cL_law 502 = .ok (.if_icmp .eq 5, 3) := by decide +kernel
theorem dL_law_505 : decode cL_law 505 = .ok (.iconst 0, 1) := by decide +kernel
theorem dL_law_506 : decode cL_law 506 = .ok (.ireturn, 1) := by decide +kernel
theorem dL_law_507 : decode cL_law 507 = .ok (.iload 5, 2) := by decide +kernel
theorem dL_law_509 : decode cL_law 509 = .ok (.ifCond .ne 15, 3) := by decide +kernel
theorem dL_law_512 : decode cL_law 512 = .ok (.aload_n 3, 1) := by decide +kernel
theorem dL_law_513 : decode cL_law 513 = .ok (.iconst 0, 1) := by decide +kernel
theorem dL_law_514 : decode cL_law 514 = .ok (.laload, 1) := by decide +kernel
theorem dL_law_515 : decode cL_law 515 = .ok (.iload 6, 2) := by decide +kernel
theorem dL_law_517 : decode cL_law 517 = .ok (.i2l, 1) := by decide +kernel
theorem dL_law_518 : decode cL_law 518 = .ok (.lcmp, 1) := by decide +kernel
theorem dL_law_519 : decode cL_law 519 = .ok (.ifCond .eq 5, 3) := by decide +kernel
theorem dL_law_522 : decode cL_law 522 = .ok (.iconst 0, 1) := by decide +kernel
theorem dL_law_523 : decode cL_law 523 = .ok (.ireturn, 1) := by decide +kernel
theorem dL_law_524 : decode cL_law 524 = .ok (.goto 989, 3) := by decide +kernel
theorem dL_law_527 : decode cL_law 527 = .ok (.aload_n 1, 1) := by decide +kernel
theorem dL_law_528 : decode cL_law 528 = .ok (.aload_n 0, 1) := by decide +kernel
theorem dL_law_529 : decode cL_law 529 = .ok (.iload 4, 2) := by decide +kernel
theorem dL_law_531 : decode cL_law 531 = .ok (.iconst 1, 1) := by decide +kernel
theorem dL_law_532 : decode cL_law 532 = .ok (.iadd, 1) := by decide +kernel
theorem dL_law_533 : decode cL_law 533 = .ok (.iaload, 1) := by decide +kernel
theorem dL_law_534 : decode cL_law 534 = .ok (.aload_n 0, 1) := by decide +kernel
theorem dL_law_535 : decode cL_law 535 = .ok (.iload 4, 2) := by decide +kernel
theorem dL_law_537 : decode cL_law 537 = .ok (.iconst 2, 1) := by decide +kernel
theorem dL_law_538 : decode cL_law 538 = .ok (.iadd, 1) := by decide +kernel
theorem dL_law_539 : decode cL_law 539 = .ok (.iaload, 1) := by decide +kernel
theorem dL_law_540 : decode cL_law 540 = .ok (.aload_n 3, 1) := by decide +kernel
theorem dL_law_541 : decode cL_law 541 = .ok (.invokestatic 124, 3) := by decide +kernel
theorem dL_law_544 : decode cL_law 544 = .ok (.istore 5, 2) := by decide +kernel
theorem dL_law_546 : decode cL_law 546 = .ok (.aload_n 2, 1) := by decide +kernel
theorem dL_law_547 : decode cL_law 547 = .ok (.aload_n 0, 1) := by decide +kernel
theorem dL_law_548 : decode cL_law 548 = .ok (.iload 4, 2) := by decide +kernel
theorem dL_law_550 : decode cL_law 550 = .ok (.iconst 1, 1) := by decide +kernel
theorem dL_law_551 : decode cL_law 551 = .ok (.iadd, 1) := by decide +kernel
theorem dL_law_552 : decode cL_law 552 = .ok (.iaload, 1) := by decide +kernel
theorem dL_law_553 : decode cL_law 553 = .ok (.aload_n 0, 1) := by decide +kernel
theorem dL_law_554 : decode cL_law 554 = .ok (.iload 4, 2) := by decide +kernel
theorem dL_law_556 : decode cL_law 556 = .ok (.iconst 2, 1) := by decide +kernel
theorem dL_law_557 : decode cL_law 557 = .ok (.iadd, 1) := by decide +kernel
theorem dL_law_558 : decode cL_law 558 = .ok (.iaload, 1) := by decide +kernel
theorem dL_law_559 : decode cL_law 559 = .ok (.invokevirtual 126, 3) := by decide +kernel
theorem dL_law_562 : decode cL_law 562 = .ok (.istore 6, 2) := by decide +kernel
theorem dL_law_564 : decode cL_law 564 = .ok (.aload_n 2, 1) := by decide +kernel
theorem dL_law_565 : decode cL_law 565 = .ok (.invokevirtual 92, 3) := by decide +kernel
theorem dL_law_568 : decode cL_law 568 = .ok (.iload 5, 2) := by decide +kernel
theorem dL_law_570 : decode cL_law 570 = .ok (.if_icmp .eq 5, 3) := by decide +kernel
theorem dL_law_573 : decode cL_law 573 = .ok (.iconst 0, 1) := by decide +kernel
theorem dL_law_574 : decode cL_law 574 = .ok (.ireturn, 1) := by decide +kernel
theorem dL_law_575 : decode cL_law 575 = .ok (.iload 5, 2) := by decide +kernel
theorem dL_law_577 : decode cL_law 577 = .ok (.ifCond .ne 15, 3) := by decide +kernel
theorem dL_law_580 : decode cL_law 580 = .ok (.aload_n 3, 1) := by decide +kernel
theorem dL_law_581 : decode cL_law 581 = .ok (.iconst 0, 1) := by decide +kernel
theorem dL_law_582 : decode cL_law 582 = .ok (.laload, 1) := by decide +kernel
theorem dL_law_583 : decode cL_law 583 = .ok (.iload 6, 2) := by decide +kernel
theorem dL_law_585 : decode cL_law 585 = .ok (.i2l, 1) := by decide +kernel
theorem dL_law_586 : decode cL_law 586 = .ok (.lcmp, 1) := by decide +kernel
theorem dL_law_587 : decode cL_law 587 = .ok (.ifCond .eq 5, 3) := by decide +kernel
theorem dL_law_590 : decode cL_law 590 = .ok (.iconst 0, 1) := by decide +kernel
theorem dL_law_591 : decode cL_law 591 = .ok (.ireturn, 1) := by decide +kernel
theorem dL_law_592 : decode cL_law 592 = .ok (.goto 921, 3) := by decide +kernel
theorem dL_law_595 : decode cL_law 595 = .ok (.aload_n 1, 1) := by decide +kernel
theorem dL_law_596 : decode cL_law 596 = .ok (.aload_n 0, 1) := by decide +kernel
theorem dL_law_597 : decode cL_law 597 = .ok (.iload 4, 2) := by decide +kernel
theorem dL_law_599 : decode cL_law 599 = .ok (.iconst 1, 1) := by decide +kernel
theorem dL_law_600 : decode cL_law 600 = .ok (.iadd, 1) := by decide +kernel
theorem dL_law_601 : decode cL_law 601 = .ok (.iaload, 1) := by decide +kernel
theorem dL_law_602 : decode cL_law 602 = .ok (.aload_n 0, 1) := by decide +kernel
theorem dL_law_603 : decode cL_law 603 = .ok (.iload 4, 2) := by decide +kernel
theorem dL_law_605 : decode cL_law 605 = .ok (.iconst 2, 1) := by decide +kernel
theorem dL_law_606 : decode cL_law 606 = .ok (.iadd, 1) := by decide +kernel
theorem dL_law_607 : decode cL_law 607 = .ok (.iaload, 1) := by decide +kernel
theorem dL_law_608 : decode cL_law 608 = .ok (.aload_n 3, 1) := by decide +kernel
theorem dL_law_609 : decode cL_law 609 = .ok (.invokestatic 127, 3) := by decide +kernel
theorem dL_law_612 : decode cL_law 612 = .ok (.istore 5, 2) := by decide +kernel
theorem dL_law_614 : decode cL_law 614 = .ok (.aload_n 2, 1) := by decide +kernel
theorem dL_law_615 : decode cL_law 615 = .ok (.aload_n 0, 1) := by decide +kernel
theorem dL_law_616 : decode cL_law 616 = .ok (.iload 4, 2) := by decide +kernel
theorem dL_law_618 : decode cL_law 618 = .ok (.iconst 1, 1) := by decide +kernel
theorem dL_law_619 : decode cL_law 619 = .ok (.iadd, 1) := by decide +kernel
theorem dL_law_620 : decode cL_law 620 = .ok (.iaload, 1) := by decide +kernel
theorem dL_law_621 : decode cL_law 621 = .ok (.aload_n 0, 1) := by decide +kernel
theorem dL_law_622 : decode cL_law 622 = .ok (.iload 4, 2) := by decide +kernel
theorem dL_law_624 : decode cL_law 624 = .ok (.iconst 2, 1) := by decide +kernel
theorem dL_law_625 : decode cL_law 625 = .ok (.iadd, 1) := by decide +kernel
theorem dL_law_626 : decode cL_law 626 = .ok (.iaload, 1) := by decide +kernel
theorem dL_law_627 : decode cL_law 627 = .ok (.invokevirtual 129, 3) := by decide +kernel
theorem dL_law_630 : decode cL_law 630 = .ok (.istore 6, 2) := by decide +kernel
theorem dL_law_632 : decode cL_law 632 = .ok (.aload_n 2, 1) := by decide +kernel
theorem dL_law_633 : decode cL_law 633 = .ok (.invokevirtual 92, 3) := by decide +kernel
theorem dL_law_636 : decode cL_law 636 = .ok (.iload 5, 2) := by decide +kernel
theorem dL_law_638 : decode cL_law 638 = .ok (.if_icmp .eq 5, 3) := by decide +kernel
theorem dL_law_641 : decode cL_law 641 = .ok (.iconst 0, 1) := by decide +kernel
theorem dL_law_642 : decode cL_law 642 = .ok (.ireturn, 1) := by decide +kernel
theorem dL_law_643 : decode cL_law 643 = .ok (.iload 5, 2) := by decide +kernel
theorem dL_law_645 : decode cL_law 645 = .ok (.ifCond .ne 15, 3) := by decide +kernel
theorem dL_law_648 : decode cL_law 648 = .ok (.aload_n 3, 1) := by decide +kernel
theorem dL_law_649 : decode cL_law 649 = .ok (.iconst 0, 1) := by decide +kernel
theorem dL_law_650 : decode cL_law 650 = .ok (.laload, 1) := by decide +kernel
theorem dL_law_651 : decode cL_law 651 = .ok (.iload 6, 2) := by decide +kernel
theorem dL_law_653 : decode cL_law 653 = .ok (.i2l, 1) := by decide +kernel
theorem dL_law_654 : decode cL_law 654 = .ok (.lcmp, 1) := by decide +kernel
theorem dL_law_655 : decode cL_law 655 = .ok (.ifCond .eq 5, 3) := by decide +kernel
theorem dL_law_658 : decode cL_law 658 = .ok (.iconst 0, 1) := by decide +kernel
theorem dL_law_659 : decode cL_law 659 = .ok (.ireturn, 1) := by decide +kernel
theorem dL_law_660 : decode cL_law 660 = .ok (.goto 853, 3) := by decide +kernel
theorem dL_law_663 : decode cL_law 663 = .ok (.aload_n 1, 1) := by decide +kernel
theorem dL_law_664 : decode cL_law 664 = .ok (.aload_n 0, 1) := by decide +kernel
theorem dL_law_665 : decode cL_law 665 = .ok (.iload 4, 2) := by decide +kernel
theorem dL_law_667 : decode cL_law 667 = .ok (.iconst 1, 1) := by decide +kernel
theorem dL_law_668 : decode cL_law 668 = .ok (.iadd, 1) := by decide +kernel
theorem dL_law_669 : decode cL_law 669 = .ok (.iaload, 1) := by decide +kernel
theorem dL_law_670 : decode cL_law 670 = .ok (.aload_n 0, 1) := by decide +kernel
theorem dL_law_671 : decode cL_law 671 = .ok (.iload 4, 2) := by decide +kernel
theorem dL_law_673 : decode cL_law 673 = .ok (.iconst 2, 1) := by decide +kernel
theorem dL_law_674 : decode cL_law 674 = .ok (.iadd, 1) := by decide +kernel
theorem dL_law_675 : decode cL_law 675 = .ok (.iaload, 1) := by decide +kernel
theorem dL_law_676 : decode cL_law 676 = .ok (.aload_n 3, 1) := by decide +kernel
theorem dL_law_677 : decode cL_law 677 = .ok (.invokestatic 130, 3) := by decide +kernel
theorem dL_law_680 : decode cL_law 680 = .ok (.istore 5, 2) := by decide +kernel
theorem dL_law_682 : decode cL_law 682 = .ok (.aload_n 2, 1) := by decide +kernel
theorem dL_law_683 : decode cL_law 683 = .ok (.aload_n 0, 1) := by decide +kernel
theorem dL_law_684 : decode cL_law 684 = .ok (.iload 4, 2) := by decide +kernel
theorem dL_law_686 : decode cL_law 686 = .ok (.iconst 1, 1) := by decide +kernel
theorem dL_law_687 : decode cL_law 687 = .ok (.iadd, 1) := by decide +kernel
theorem dL_law_688 : decode cL_law 688 = .ok (.iaload, 1) := by decide +kernel
theorem dL_law_689 : decode cL_law 689 = .ok (.aload_n 0, 1) := by decide +kernel
theorem dL_law_690 : decode cL_law 690 = .ok (.iload 4, 2) := by decide +kernel
theorem dL_law_692 : decode cL_law 692 = .ok (.iconst 2, 1) := by decide +kernel
theorem dL_law_693 : decode cL_law 693 = .ok (.iadd, 1) := by decide +kernel
theorem dL_law_694 : decode cL_law 694 = .ok (.iaload, 1) := by decide +kernel
theorem dL_law_695 : decode cL_law 695 = .ok (.invokevirtual 132, 3) := by decide +kernel
theorem dL_law_698 : decode cL_law 698 = .ok (.istore 6, 2) := by decide +kernel
theorem dL_law_700 : decode cL_law 700 = .ok (.aload_n 2, 1) := by decide +kernel
theorem dL_law_701 : decode cL_law 701 = .ok (.invokevirtual 92, 3) := by decide +kernel
theorem dL_law_704 : decode cL_law 704 = .ok (.iload 5, 2) := by decide +kernel
theorem dL_law_706 : decode cL_law 706 = .ok (.if_icmp .eq 5, 3) := by decide +kernel
theorem dL_law_709 : decode cL_law 709 = .ok (.iconst 0, 1) := by decide +kernel
theorem dL_law_710 : decode cL_law 710 = .ok (.ireturn, 1) := by decide +kernel
theorem dL_law_711 : decode cL_law 711 = .ok (.iload 5, 2) := by decide +kernel
theorem dL_law_713 : decode cL_law 713 = .ok (.ifCond .ne 15, 3) := by decide +kernel
theorem dL_law_716 : decode cL_law 716 = .ok (.aload_n 3, 1) := by decide +kernel
theorem dL_law_717 : decode cL_law 717 = .ok (.iconst 0, 1) := by decide +kernel
theorem dL_law_718 : decode cL_law 718 = .ok (.laload, 1) := by decide +kernel
theorem dL_law_719 : decode cL_law 719 = .ok (.iload 6, 2) := by decide +kernel
theorem dL_law_721 : decode cL_law 721 = .ok (.i2l, 1) := by decide +kernel
theorem dL_law_722 : decode cL_law 722 = .ok (.lcmp, 1) := by decide +kernel
theorem dL_law_723 : decode cL_law 723 = .ok (.ifCond .eq 5, 3) := by decide +kernel
theorem dL_law_726 : decode cL_law 726 = .ok (.iconst 0, 1) := by decide +kernel
theorem dL_law_727 : decode cL_law 727 = .ok (.ireturn, 1) := by decide +kernel
theorem dL_law_728 : decode cL_law 728 = .ok (.goto 785, 3) := by decide +kernel
theorem dL_law_731 : decode cL_law 731 = .ok (.aload_n 1, 1) := by decide +kernel
theorem dL_law_732 : decode cL_law 732 = .ok (.aload_n 0, 1) := by decide +kernel
theorem dL_law_733 : decode cL_law 733 = .ok (.iload 4, 2) := by decide +kernel
theorem dL_law_735 : decode cL_law 735 = .ok (.iconst 1, 1) := by decide +kernel
theorem dL_law_736 : decode cL_law 736 = .ok (.iadd, 1) := by decide +kernel
theorem dL_law_737 : decode cL_law 737 = .ok (.iaload, 1) := by decide +kernel
theorem dL_law_738 : decode cL_law 738 = .ok (.aload_n 0, 1) := by decide +kernel
theorem dL_law_739 : decode cL_law 739 = .ok (.iload 4, 2) := by decide +kernel
theorem dL_law_741 : decode cL_law 741 = .ok (.iconst 2, 1) := by decide +kernel
theorem dL_law_742 : decode cL_law 742 = .ok (.iadd, 1) := by decide +kernel
theorem dL_law_743 : decode cL_law 743 = .ok (.iaload, 1) := by decide +kernel
theorem dL_law_744 : decode cL_law 744 = .ok (.ifCond .eq 7, 3) := by decide +kernel
theorem dL_law_747 : decode cL_law 747 = .ok (.iconst 1, 1) := by decide +kernel
theorem dL_law_748 : decode cL_law 748 = .ok (.goto 4, 3) := by decide +kernel
theorem dL_law_751 : decode cL_law 751 = .ok (.iconst 0, 1) := by decide +kernel
theorem dL_law_752 : decode cL_law 752 = .ok (.aload_n 3, 1) := by decide +kernel
theorem dL_law_753 : decode cL_law 753 = .ok (.invokestatic 133, 3) := by decide +kernel
theorem dL_law_756 : decode cL_law 756 = .ok (.istore 5, 2) := by decide +kernel
theorem dL_law_758 : decode cL_law 758 = .ok (.aload_n 2, 1) := by decide +kernel
theorem dL_law_759 : decode cL_law 759 = .ok (.aload_n 0, 1) := by decide +kernel
theorem dL_law_760 : decode cL_law 760 = .ok (.iload 4, 2) := by decide +kernel
theorem dL_law_762 : decode cL_law 762 = .ok (.iconst 1, 1) := by decide +kernel
theorem dL_law_763 : decode cL_law 763 = .ok (.iadd, 1) := by decide +kernel
theorem dL_law_764 : decode cL_law 764 = .ok (.iaload, 1) := by decide +kernel
theorem dL_law_765 : decode cL_law 765 = .ok (.aload_n 0, 1) := by decide +kernel
theorem dL_law_766 : decode cL_law 766 = .ok (.iload 4, 2) := by decide +kernel
theorem dL_law_768 : decode cL_law 768 = .ok (.iconst 2, 1) := by decide +kernel
theorem dL_law_769 : decode cL_law 769 = .ok (.iadd, 1) := by decide +kernel
theorem dL_law_770 : decode cL_law 770 = .ok (.iaload, 1) := by decide +kernel
theorem dL_law_771 : decode cL_law 771 = .ok (.ifCond .eq 7, 3) := by decide +kernel
theorem dL_law_774 : decode cL_law 774 = .ok (.iconst 1, 1) := by decide +kernel
theorem dL_law_775 : decode cL_law 775 = .ok (.goto 4, 3) := by decide +kernel
theorem dL_law_778 : decode cL_law 778 = .ok (.iconst 0, 1) := by decide +kernel
theorem dL_law_779 : decode cL_law 779 = .ok (.invokevirtual 136, 3) := by decide +kernel
theorem dL_law_782 : decode cL_law 782 = .ok (.istore 6, 2) := by decide +kernel
theorem dL_law_784 : decode cL_law 784 = .ok (.aload_n 2, 1) := by decide +kernel
theorem dL_law_785 : decode cL_law 785 = .ok (.invokevirtual 92, 3) := by decide +kernel
theorem dL_law_788 : decode cL_law 788 = .ok (.iload 5, 2) := by decide +kernel
theorem dL_law_790 : decode cL_law 790 = .ok (.if_icmp .eq 5, 3) := by decide +kernel
theorem dL_law_793 : decode cL_law 793 = .ok (.iconst 0, 1) := by decide +kernel
theorem dL_law_794 : decode cL_law 794 = .ok (.ireturn, 1) := by decide +kernel
theorem dL_law_795 : decode cL_law 795 = .ok (.iload 5, 2) := by decide +kernel
theorem dL_law_797 : decode cL_law 797 = .ok (.ifCond .ne 15, 3) := by decide +kernel
theorem dL_law_800 : decode cL_law 800 = .ok (.aload_n 3, 1) := by decide +kernel
theorem dL_law_801 : decode cL_law 801 = .ok (.iconst 0, 1) := by decide +kernel
theorem dL_law_802 : decode cL_law 802 = .ok (.laload, 1) := by decide +kernel
theorem dL_law_803 : decode cL_law 803 = .ok (.iload 6, 2) := by decide +kernel
theorem dL_law_805 : decode cL_law 805 = .ok (.i2l, 1) := by decide +kernel
theorem dL_law_806 : decode cL_law 806 = .ok (.lcmp, 1) := by decide +kernel
theorem dL_law_807 : decode cL_law 807 = .ok (.ifCond .eq 5, 3) := by decide +kernel
theorem dL_law_810 : decode cL_law 810 = .ok (.iconst 0, 1) := by decide +kernel
theorem dL_law_811 : decode cL_law 811 = .ok (.ireturn, 1) := by decide +kernel
theorem dL_law_812 : decode cL_law 812 = .ok (.goto 701, 3) := by decide +kernel
theorem dL_law_815 : decode cL_law 815 = .ok (.aload_n 1, 1) := by decide +kernel
theorem dL_law_816 : decode cL_law 816 = .ok (.aload_n 0, 1) := by decide +kernel
theorem dL_law_817 : decode cL_law 817 = .ok (.iload 4, 2) := by decide +kernel
theorem dL_law_819 : decode cL_law 819 = .ok (.iconst 1, 1) := by decide +kernel
theorem dL_law_820 : decode cL_law 820 = .ok (.iadd, 1) := by decide +kernel
theorem dL_law_821 : decode cL_law 821 = .ok (.iaload, 1) := by decide +kernel
theorem dL_law_822 : decode cL_law 822 = .ok (.aload_n 3, 1) := by decide +kernel
theorem dL_law_823 : decode cL_law 823 = .ok (.invokestatic 137, 3) := by decide +kernel
theorem dL_law_826 : decode cL_law 826 = .ok (.istore 5, 2) := by decide +kernel
theorem dL_law_828 : decode cL_law 828 = .ok (.aload_n 2, 1) := by decide +kernel
theorem dL_law_829 : decode cL_law 829 = .ok (.aload_n 0, 1) := by decide +kernel
theorem dL_law_830 : decode cL_law 830 = .ok (.iload 4, 2) := by decide +kernel
theorem dL_law_832 : decode cL_law 832 = .ok (.iconst 1, 1) := by decide +kernel
theorem dL_law_833 : decode cL_law 833 = .ok (.iadd, 1) := by decide +kernel
theorem dL_law_834 : decode cL_law 834 = .ok (.iaload, 1) := by decide +kernel
theorem dL_law_835 : decode cL_law 835 = .ok (.invokevirtual 139, 3) := by decide +kernel
theorem dL_law_838 : decode cL_law 838 = .ok (.istore 6, 2) := by decide +kernel
theorem dL_law_840 : decode cL_law 840 = .ok (.aload_n 2, 1) := by decide +kernel
theorem dL_law_841 : decode cL_law 841 = .ok (.invokevirtual 92, 3) := by decide +kernel
theorem dL_law_844 : decode cL_law 844 = .ok (.iload 5, 2) := by decide +kernel
theorem dL_law_846 : decode cL_law 846 = .ok (.if_icmp .eq 5, 3) := by decide +kernel
theorem dL_law_849 : decode cL_law 849 = .ok (.iconst 0, 1) := by decide +kernel
theorem dL_law_850 : decode cL_law 850 = .ok (.ireturn, 1) := by decide +kernel
theorem dL_law_851 : decode cL_law 851 = .ok (.iload 5, 2) := by decide +kernel
theorem dL_law_853 : decode cL_law 853 = .ok (.ifCond .ne 15, 3) := by decide +kernel
theorem dL_law_856 : decode cL_law 856 = .ok (.aload_n 3, 1) := by decide +kernel
theorem dL_law_857 : decode cL_law 857 = .ok (.iconst 0, 1) := by decide +kernel
theorem dL_law_858 : decode cL_law 858 = .ok (.laload, 1) := by decide +kernel
theorem dL_law_859 : decode cL_law 859 = .ok (.iload 6, 2) := by decide +kernel
theorem dL_law_861 : decode cL_law 861 = .ok (.i2l, 1) := by decide +kernel
theorem dL_law_862 : decode cL_law 862 = .ok (.lcmp, 1) := by decide +kernel
theorem dL_law_863 : decode cL_law 863 = .ok (.ifCond .eq 5, 3) := by decide +kernel
theorem dL_law_866 : decode cL_law 866 = .ok (.iconst 0, 1) := by decide +kernel
theorem dL_law_867 : decode cL_law 867 = .ok (.ireturn, 1) := by decide +kernel
theorem dL_law_868 : decode cL_law 868 = .ok (.goto 645, 3) := by decide +kernel
theorem dL_law_871 : decode cL_law 871 = .ok (.aload_n 1, 1) := by decide +kernel
theorem dL_law_872 : decode cL_law 872 = .ok (.aload_n 3, 1) := by decide +kernel
theorem dL_law_873 : decode cL_law 873 = .ok (.invokestatic 140, 3) := by decide +kernel
theorem dL_law_876 : decode cL_law 876 = .ok (.istore 5, 2) := by decide +kernel
theorem dL_law_878 : decode cL_law 878 = .ok (.aload_n 2, 1) := by decide +kernel
theorem dL_law_879 : decode cL_law 879 = .ok (.invokevirtual 142, 3) := by decide +kernel
theorem dL_law_882 : decode cL_law 882 = .ok (.istore 6, 2) := by decide +kernel
theorem dL_law_884 : decode cL_law 884 = .ok (.aload_n 2, 1) := by decide +kernel
theorem dL_law_885 : decode cL_law 885 = .ok (.invokevirtual 92, 3) := by decide +kernel
theorem dL_law_888 : decode cL_law 888 = .ok (.iload 5, 2) := by decide +kernel
theorem dL_law_890 : decode cL_law 890 = .ok (.if_icmp .eq 5, 3) := by decide +kernel
theorem dL_law_893 : decode cL_law 893 = .ok (.iconst 0, 1) := by decide +kernel
theorem dL_law_894 : decode cL_law 894 = .ok (.ireturn, 1) := by decide +kernel
theorem dL_law_895 : decode cL_law 895 = .ok (.iload 5, 2) := by decide +kernel
theorem dL_law_897 : decode cL_law 897 = .ok (.ifCond .ne 15, 3) := by decide +kernel
theorem dL_law_900 : decode cL_law 900 = .ok (.aload_n 3, 1) := by decide +kernel
theorem dL_law_901 : decode cL_law 901 = .ok (.iconst 0, 1) := by decide +kernel
theorem dL_law_902 : decode cL_law 902 = .ok (.laload, 1) := by decide +kernel
theorem dL_law_903 : decode cL_law 903 = .ok (.iload 6, 2) := by decide +kernel
theorem dL_law_905 : decode cL_law 905 = .ok (.i2l, 1) := by decide +kernel
theorem dL_law_906 : decode cL_law 906 = .ok (.lcmp, 1) := by decide +kernel
theorem dL_law_907 : decode cL_law 907 = .ok (.ifCond .eq 5, 3) := by decide +kernel
theorem dL_law_910 : decode cL_law 910 = .ok (.iconst 0, 1) := by decide +kernel
theorem dL_law_911 : decode cL_law 911 = .ok (.ireturn, 1) := by decide +kernel
theorem dL_law_912 : decode cL_law 912 = .ok (.goto 601, 3) := by decide +kernel
theorem dL_law_915 : decode cL_law 915 = .ok (.aload_n 1, 1) := by decide +kernel
theorem dL_law_916 : decode cL_law 916 = .ok (.aload_n 3, 1) := by decide +kernel
theorem dL_law_917 : decode cL_law 917 = .ok (.invokestatic 143, 3) := by decide +kernel
theorem dL_law_920 : decode cL_law 920 = .ok (.istore 5, 2) := by decide +kernel
theorem dL_law_922 : decode cL_law 922 = .ok (.aload_n 2, 1) := by decide +kernel
theorem dL_law_923 : decode cL_law 923 = .ok (.invokevirtual 145, 3) := by decide +kernel
theorem dL_law_926 : decode cL_law 926 = .ok (.istore 6, 2) := by decide +kernel
theorem dL_law_928 : decode cL_law 928 = .ok (.aload_n 2, 1) := by decide +kernel
theorem dL_law_929 : decode cL_law 929 = .ok (.invokevirtual 92, 3) := by decide +kernel
theorem dL_law_932 : decode cL_law 932 = .ok (.iload 5, 2) := by decide +kernel
theorem dL_law_934 : decode cL_law 934 = .ok (.if_icmp .eq 5, 3) := by decide +kernel
theorem dL_law_937 : decode cL_law 937 = .ok (.iconst 0, 1) := by decide +kernel
theorem dL_law_938 : decode cL_law 938 = .ok (.ireturn, 1) := by decide +kernel
theorem dL_law_939 : decode cL_law 939 = .ok (.iload 5, 2) := by decide +kernel
theorem dL_law_941 : decode cL_law 941 = .ok (.ifCond .ne 15, 3) := by decide +kernel
theorem dL_law_944 : decode cL_law 944 = .ok (.aload_n 3, 1) := by decide +kernel
theorem dL_law_945 : decode cL_law 945 = .ok (.iconst 0, 1) := by decide +kernel
theorem dL_law_946 : decode cL_law 946 = .ok (.laload, 1) := by decide +kernel
theorem dL_law_947 : decode cL_law 947 = .ok (.iload 6, 2) := by decide +kernel
theorem dL_law_949 : decode cL_law 949 = .ok (.i2l, 1) := by decide +kernel
theorem dL_law_950 : decode cL_law 950 = .ok (.lcmp, 1) := by decide +kernel
theorem dL_law_951 : decode cL_law 951 = .ok (.ifCond .eq 5, 3) := by decide +kernel
theorem dL_law_954 : decode cL_law 954 = .ok (.iconst 0, 1) := by decide +kernel
theorem dL_law_955 : decode cL_law 955 = .ok (.ireturn, 1) := by decide +kernel
theorem dL_law_956 : decode cL_law 956 = .ok (.goto 557, 3) := by decide +kernel
theorem dL_law_959 : decode cL_law 959 = .ok (.aload_n 1, 1) := by decide +kernel
theorem dL_law_960 : decode cL_law 960 = .ok (.aload_n 0, 1) := by decide +kernel
theorem dL_law_961 : decode cL_law 961 = .ok (.iload 4, 2) := by decide +kernel
theorem dL_law_963 : decode cL_law 963 = .ok (.iconst 1, 1) := by decide +kernel
theorem dL_law_964 : decode cL_law 964 = .ok (.iadd, 1) := by decide +kernel
theorem dL_law_965 : decode cL_law 965 = .ok (.iaload, 1) := by decide +kernel
theorem dL_law_966 : decode cL_law 966 = .ok (.aload_n 0, 1) := by decide +kernel
theorem dL_law_967 : decode cL_law 967 = .ok (.iload 4, 2) := by decide +kernel
theorem dL_law_969 : decode cL_law 969 = .ok (.iconst 2, 1) := by decide +kernel
theorem dL_law_970 : decode cL_law 970 = .ok (.iadd, 1) := by decide +kernel
theorem dL_law_971 : decode cL_law 971 = .ok (.iaload, 1) := by decide +kernel
theorem dL_law_972 : decode cL_law 972 = .ok (.aload_n 0, 1) := by decide +kernel
theorem dL_law_973 : decode cL_law 973 = .ok (.iload 4, 2) := by decide +kernel
theorem dL_law_975 : decode cL_law 975 = .ok (.iconst 3, 1) := by decide +kernel
theorem dL_law_976 : decode cL_law 976 = .ok (.iadd, 1) := by decide +kernel
theorem dL_law_977 : decode cL_law 977 = .ok (.iaload, 1) := by decide +kernel
theorem dL_law_978 : decode cL_law 978 = .ok (.aload_n 3, 1) := by decide +kernel
theorem dL_law_979 : decode cL_law 979 = .ok (.invokestatic 146, 3) := by decide +kernel
theorem dL_law_982 : decode cL_law 982 = .ok (.istore 5, 2) := by decide +kernel
theorem dL_law_984 : decode cL_law 984 = .ok (.aload_n 2, 1) := by decide +kernel
theorem dL_law_985 : decode cL_law 985 = .ok (.aload_n 0, 1) := by decide +kernel
theorem dL_law_986 : decode cL_law 986 = .ok (.iload 4, 2) := by decide +kernel
theorem dL_law_988 : decode cL_law 988 = .ok (.iconst 1, 1) := by decide +kernel
theorem dL_law_989 : decode cL_law 989 = .ok (.iadd, 1) := by decide +kernel
theorem dL_law_990 : decode cL_law 990 = .ok (.iaload, 1) := by decide +kernel
theorem dL_law_991 : decode cL_law 991 = .ok (.aload_n 0, 1) := by decide +kernel
theorem dL_law_992 : decode cL_law 992 = .ok (.iload 4, 2) := by decide +kernel
theorem dL_law_994 : decode cL_law 994 = .ok (.iconst 2, 1) := by decide +kernel
theorem dL_law_995 : decode cL_law 995 = .ok (.iadd, 1) := by decide +kernel
theorem dL_law_996 : decode cL_law 996 = .ok (.iaload, 1) := by decide +kernel
theorem dL_law_997 : decode cL_law 997 = .ok (.aload_n 0, 1) := by decide +kernel
theorem dL_law_998 : decode cL_law 998 = .ok (.iload 4, 2) := by decide +kernel
theorem dL_law_1000 : decode cL_law 1000 = .ok (.iconst 3, 1) := by decide +kernel
theorem dL_law_1001 : decode cL_law 1001 = .ok (.iadd, 1) := by decide +kernel
theorem dL_law_1002 : decode cL_law 1002 = .ok (.iaload, 1) := by decide +kernel
theorem dL_law_1003 : decode cL_law 1003 = .ok (.invokevirtual 149, 3) := by decide +kernel
theorem dL_law_1006 : decode cL_law 1006 = .ok (.istore 6, 2) := by decide +kernel
theorem dL_law_1008 : decode cL_law 1008 = .ok (.aload_n 2, 1) := by decide +kernel
theorem dL_law_1009 : decode cL_law 1009 = .ok (.invokevirtual 92, 3) := by decide +kernel
theorem dL_law_1012 : decode cL_law 1012 = .ok (.iload 5, 2) := by decide +kernel
theorem dL_law_1014 : decode cL_law 1014 = .ok (.if_icmp .eq 5, 3) := by decide +kernel
theorem dL_law_1017 : decode cL_law 1017 = .ok (.iconst 0, 1) := by decide +kernel
theorem dL_law_1018 : decode cL_law 1018 = .ok (.ireturn, 1) := by decide +kernel
theorem dL_law_1019 : decode cL_law 1019 = .ok (.iload 5, 2) := by decide +kernel
theorem dL_law_1021 : decode cL_law 1021 = .ok (.ifCond .ne 15, 3) := by decide +kernel
theorem dL_law_1024 : decode cL_law 1024 = .ok (.aload_n 3, 1) := by decide +kernel
theorem dL_law_1025 : decode cL_law 1025 = .ok (.iconst 0, 1) := by decide +kernel
theorem dL_law_1026 : decode cL_law 1026 = .ok (.laload, 1) := by decide +kernel
theorem dL_law_1027 : decode cL_law 1027 = .ok (.iload 6, 2) := by decide +kernel
theorem dL_law_1029 : decode cL_law 1029 = .ok (.i2l, 1) := by decide +kernel
theorem dL_law_1030 : decode cL_law 1030 = .ok (.lcmp, 1) := by decide +kernel
theorem dL_law_1031 : decode cL_law 1031 = .ok (.ifCond .eq 5, 3) := by decide +kernel
theorem dL_law_1034 : decode cL_law 1034 = .ok (.iconst 0, 1) := by decide +kernel
theorem dL_law_1035 : decode cL_law 1035 = .ok (.ireturn, 1) := by decide +kernel
theorem dL_law_1036 : decode cL_law 1036 = .ok (.goto 477, 3) := by decide +kernel
theorem dL_law_1039 : decode cL_law 1039 = .ok (.aload_n 1, 1) := by decide +kernel
theorem dL_law_1040 : decode cL_law 1040 = .ok (.aload_n 0, 1) := by decide +kernel
theorem dL_law_1041 : decode cL_law 1041 = .ok (.iload 4, 2) := by decide +kernel
theorem dL_law_1043 : decode cL_law 1043 = .ok (.iconst 1, 1) := by decide +kernel
theorem dL_law_1044 : decode cL_law 1044 = .ok (.iadd, 1) := by decide +kernel
theorem dL_law_1045 : decode cL_law 1045 = .ok (.iaload, 1) := by decide +kernel
theorem dL_law_1046 : decode cL_law 1046 = .ok (.aload_n 0, 1) := by decide +kernel
theorem dL_law_1047 : decode cL_law 1047 = .ok (.iload 4, 2) := by decide +kernel
theorem dL_law_1049 : decode cL_law 1049 = .ok (.iconst 2, 1) := by decide +kernel
theorem dL_law_1050 : decode cL_law 1050 = .ok (.iadd, 1) := by decide +kernel
theorem dL_law_1051 : decode cL_law 1051 = .ok (.iaload, 1) := by decide +kernel
theorem dL_law_1052 : decode cL_law 1052 = .ok (.aload_n 3, 1) := by decide +kernel
theorem dL_law_1053 : decode cL_law 1053 = .ok (.invokestatic 150, 3) := by decide +kernel
theorem dL_law_1056 : decode cL_law 1056 = .ok (.istore 5, 2) := by decide +kernel
theorem dL_law_1058 : decode cL_law 1058 = .ok (.aload_n 2, 1) := by decide +kernel
theorem dL_law_1059 : decode cL_law 1059 = .ok (.aload_n 0, 1) := by decide +kernel
theorem dL_law_1060 : decode cL_law 1060 = .ok (.iload 4, 2) := by decide +kernel
theorem dL_law_1062 : decode cL_law 1062 = .ok (.iconst 1, 1) := by decide +kernel
theorem dL_law_1063 : decode cL_law 1063 = .ok (.iadd, 1) := by decide +kernel
theorem dL_law_1064 : decode cL_law 1064 = .ok (.iaload, 1) := by decide +kernel
theorem dL_law_1065 : decode cL_law 1065 = .ok (.aload_n 0, 1) := by decide +kernel
theorem dL_law_1066 : decode cL_law 1066 = .ok (.iload 4, 2) := by decide +kernel
theorem dL_law_1068 : decode cL_law 1068 = .ok (.iconst 2, 1) := by decide +kernel
theorem dL_law_1069 : decode cL_law 1069 = .ok (.iadd, 1) := by decide +kernel
theorem dL_law_1070 : decode cL_law 1070 = .ok (.iaload, 1) := by decide +kernel
theorem dL_law_1071 : decode cL_law 1071 = .ok (.invokevirtual 152, 3) := by decide +kernel
theorem dL_law_1074 : decode cL_law 1074 = .ok (.istore 6, 2) := by decide +kernel
theorem dL_law_1076 : decode cL_law 1076 = .ok (.aload_n 2, 1) := by decide +kernel
theorem dL_law_1077 : decode cL_law 1077 = .ok (.invokevirtual 92, 3) := by decide +kernel
theorem dL_law_1080 : decode cL_law 1080 = .ok (.iload 5, 2) := by decide +kernel
theorem dL_law_1082 : decode cL_law 1082 = .ok (.if_icmp .eq 5, 3) := by decide +kernel
theorem dL_law_1085 : decode cL_law 1085 = .ok (.iconst 0, 1) := by decide +kernel
theorem dL_law_1086 : decode cL_law 1086 = .ok (.ireturn, 1) := by decide +kernel
theorem dL_law_1087 : decode cL_law 1087 = .ok (.iload 5, 2) := by decide +kernel
theorem dL_law_1089 : decode cL_law 1089 = .ok (.ifCond .ne 15, 3) := by decide +kernel
theorem dL_law_1092 : decode cL_law 1092 = .ok (.aload_n 3, 1) := by decide +kernel
theorem dL_law_1093 : decode cL_law 1093 = .ok (.iconst 0, 1) := by decide +kernel
theorem dL_law_1094 : decode cL_law 1094 = .ok (.laload, 1) := by decide +kernel
theorem dL_law_1095 : decode cL_law 1095 = .ok (.iload 6, 2) := by decide +kernel
theorem dL_law_1097 : decode cL_law 1097 = .ok (.i2l, 1) := by decide +kernel
theorem dL_law_1098 : decode cL_law 1098 = .ok (.lcmp, 1) := by decide +kernel
theorem dL_law_1099 : decode cL_law 1099 = .ok (.ifCond .eq 5, 3) := by decide +kernel
theorem dL_law_1102 : decode cL_law 1102 = .ok (.iconst 0, 1) := by decide +kernel
theorem dL_law_1103 : decode cL_law 1103 = .ok (.ireturn, 1) := by decide +kernel
theorem dL_law_1104 : decode cL_law 1104 = .ok (.goto 409, 3) := by decide +kernel
theorem dL_law_1107 : decode cL_law 1107 = .ok (.aload_n 1, 1) := by decide +kernel
theorem dL_law_1108 : decode cL_law 1108 = .ok (.invokevirtual 153, 3) := by decide +kernel
theorem dL_law_1111 : decode cL_law 1111 = .ok (.aload_n 2, 1) := by decide +kernel
theorem dL_law_1112 : decode cL_law 1112 = .ok (.invokevirtual 156, 3) := by decide +kernel
theorem dL_law_1115 : decode cL_law 1115 = .ok (.if_icmp .eq 398, 3) := by decide +kernel
theorem dL_law_1118 : decode cL_law 1118 = .ok (.iconst 0, 1) := by decide +kernel
theorem dL_law_1119 : decode cL_law 1119 = .ok (.ireturn, 1) := by decide +kernel
theorem dL_law_1120 : decode cL_law 1120 = .ok (.aload_n 1, 1) := by decide +kernel
theorem dL_law_1121 : decode cL_law 1121 = .ok (.invokevirtual 157, 3) := by decide +kernel
theorem dL_law_1124 : decode cL_law 1124 = .ok (.aload_n 2, 1) := by decide +kernel
theorem dL_law_1125 : decode cL_law 1125 = .ok (.invokevirtual 160, 3) := by decide +kernel
theorem dL_law_1128 : decode cL_law 1128 = .ok (.if_icmp .eq 385, 3) := by decide +kernel
theorem dL_law_1131 : decode cL_law 1131 = .ok (.iconst 0, 1) := by decide +kernel
theorem dL_law_1132 : decode cL_law 1132 = .ok (.ireturn, 1) := by decide +kernel
theorem dL_law_1133 : decode cL_law 1133 = .ok (.aload_n 1, 1) := by decide +kernel
theorem dL_law_1134 : decode cL_law 1134 = .ok (.aload_n 0, 1) := by decide +kernel
theorem dL_law_1135 : decode cL_law 1135 = .ok (.iload 4, 2) := by decide +kernel
theorem dL_law_1137 : decode cL_law 1137 = .ok (.iconst 1, 1) := by decide +kernel
theorem dL_law_1138 : decode cL_law 1138 = .ok (.iadd, 1) := by decide +kernel
theorem dL_law_1139 : decode cL_law 1139 = .ok (.iaload, 1) := by decide +kernel
theorem dL_law_1140 : decode cL_law 1140 = .ok (.aload_n 0, 1) := by decide +kernel
theorem dL_law_1141 : decode cL_law 1141 = .ok (.iload 4, 2) := by decide +kernel
theorem dL_law_1143 : decode cL_law 1143 = .ok (.iconst 2, 1) := by decide +kernel
end
section
theorem dL_law_1144 : decode cL_law 1144 = .ok (.iadd, 1) := by decide +kernel
theorem dL_law_1145 : decode cL_law 1145 = .ok (.iaload, 1) := by decide +kernel
theorem dL_law_1146 : decode cL_law 1146 = .ok (.aload_n 3, 1) := by decide +kernel
theorem dL_law_1147 : decode cL_law 1147 = .ok (.invokestatic 161, 3) := by decide +kernel
theorem dL_law_1150 : decode cL_law 1150 = .ok (.istore 5, 2) := by decide +kernel
theorem dL_law_1152 : decode cL_law 1152 = .ok (.aload_n 2, 1) := by decide +kernel
theorem dL_law_1153 : decode cL_law 1153 = .ok (.aload_n 0, 1) := by decide +kernel
theorem dL_law_1154 : decode cL_law 1154 = .ok (.iload 4, 2) := by decide +kernel
theorem dL_law_1156 : decode cL_law 1156 = .ok (.iconst 1, 1) := by decide +kernel
theorem dL_law_1157 : decode cL_law 1157 = .ok (.iadd, 1) := by decide +kernel
theorem dL_law_1158 : decode cL_law 1158 = .ok (.iaload, 1) := by decide +kernel
theorem dL_law_1159 : decode cL_law 1159 = .ok (.aload_n 0, 1) := by decide +kernel
theorem dL_law_1160 : decode cL_law 1160 = .ok (.iload 4, 2) := by decide +kernel
theorem dL_law_1162 : decode cL_law 1162 = .ok (.iconst 2, 1) := by decide +kernel
theorem dL_law_1163 : decode cL_law 1163 = .ok (.iadd, 1) := by decide +kernel
theorem dL_law_1164 : decode cL_law 1164 = .ok (.iaload, 1) := by decide +kernel
theorem dL_law_1165 : decode cL_law 1165 = .ok (.invokevirtual 163, 3) := by decide +kernel
theorem dL_law_1168 : decode cL_law 1168 = .ok (.istore 6, 2) := by decide +kernel
theorem dL_law_1170 : decode cL_law 1170 = .ok (.aload_n 2, 1) := by decide +kernel
theorem dL_law_1171 : decode cL_law 1171 = .ok (.invokevirtual 92, 3) := by decide +kernel
theorem dL_law_1174 : decode cL_law 1174 = .ok (.iload 5, 2) := by decide +kernel
theorem dL_law_1176 : decode cL_law 1176 = .ok (.if_icmp .eq 5, 3) := by decide +kernel
theorem dL_law_1179 : decode cL_law 1179 = .ok (.iconst 0, 1) := by decide +kernel
theorem dL_law_1180 : decode cL_law 1180 = .ok (.ireturn, 1) := by decide +kernel
theorem dL_law_1181 : decode cL_law 1181 = .ok (.iload 5, 2) := by decide +kernel
theorem dL_law_1183 : decode cL_law 1183 = .ok (.ifCond .ne 15, 3) := by decide +kernel
theorem dL_law_1186 : decode cL_law 1186 = .ok (.aload_n 3, 1) := by decide +kernel
theorem dL_law_1187 : decode cL_law 1187 = .ok (.iconst 0, 1) := by decide +kernel
theorem dL_law_1188 : decode cL_law 1188 = .ok (.laload, 1) := by decide +kernel
theorem dL_law_1189 : decode cL_law 1189 = .ok (.iload 6, 2) := by decide +kernel
theorem dL_law_1191 : decode cL_law 1191 = .ok (.i2l, 1) := by decide +kernel
theorem dL_law_1192 : decode cL_law 1192 = .ok (.lcmp, 1) := by decide +kernel
theorem dL_law_1193 : decode cL_law 1193 = .ok (.ifCond .eq 5, 3) := by decide +kernel
theorem dL_law_1196 : decode cL_law 1196 = .ok (.iconst 0, 1) := by decide +kernel
theorem dL_law_1197 : decode cL_law 1197 = .ok (.ireturn, 1) := by decide +kernel
theorem dL_law_1198 : decode cL_law 1198 = .ok (.goto 315, 3) := by decide +kernel
theorem dL_law_1201 : decode cL_law 1201 = .ok (.aload_n 1, 1) := by decide +kernel
theorem dL_law_1202 : decode cL_law 1202 = .ok (.aload_n 0, 1) := by decide +kernel
theorem dL_law_1203 : decode cL_law 1203 = .ok (.iload 4, 2) := by decide +kernel
theorem dL_law_1205 : decode cL_law 1205 = .ok (.iconst 1, 1) := by decide +kernel
theorem dL_law_1206 : decode cL_law 1206 = .ok (.iadd, 1) := by decide +kernel
theorem dL_law_1207 : decode cL_law 1207 = .ok (.iaload, 1) := by decide +kernel
theorem dL_law_1208 : decode cL_law 1208 = .ok (.aload_n 0, 1) := by decide +kernel
theorem dL_law_1209 : decode cL_law 1209 = .ok (.iload 4, 2) := by decide +kernel
theorem dL_law_1211 : decode cL_law 1211 = .ok (.iconst 2, 1) := by decide +kernel
theorem dL_law_1212 : decode cL_law 1212 = .ok (.iadd, 1) := by decide +kernel
theorem dL_law_1213 : decode cL_law 1213 = .ok (.iaload, 1) := by decide +kernel
theorem dL_law_1214 : decode cL_law 1214 = .ok (.i2l, 1) := by decide +kernel
theorem dL_law_1215 : decode cL_law 1215 = .ok (.bipush 32, 2) := by decide +kernel
theorem dL_law_1217 : decode cL_law 1217 = .ok (.lshl, 1) := by decide +kernel
theorem dL_law_1218 : decode cL_law 1218 = .ok (.aload_n 0, 1) := by decide +kernel
theorem dL_law_1219 : decode cL_law 1219 = .ok (.iload 4, 2) := by decide +kernel
theorem dL_law_1221 : decode cL_law 1221 = .ok (.iconst 3, 1) := by decide +kernel
theorem dL_law_1222 : decode cL_law 1222 = .ok (.iadd, 1) := by decide +kernel
theorem dL_law_1223 : decode cL_law 1223 = .ok (.iaload, 1) := by decide +kernel
theorem dL_law_1224 : decode cL_law 1224 = .ok (.i2l, 1) := by decide +kernel
theorem dL_law_1225 : decode cL_law 1225 = .ok (.ldc2_w 164, 3) := by decide +kernel
theorem dL_law_1228 : decode cL_law 1228 = .ok (.land, 1) := by decide +kernel
theorem dL_law_1229 : decode cL_law 1229 = .ok (.lor, 1) := by decide +kernel
theorem dL_law_1230 : decode cL_law 1230 = .ok (.aload_n 3, 1) := by decide +kernel
theorem dL_law_1231 : decode cL_law 1231 = .ok (.invokestatic 166, 3) := by decide +kernel
theorem dL_law_1234 : decode cL_law 1234 = .ok (.istore 5, 2) := by decide +kernel
theorem dL_law_1236 : decode cL_law 1236 = .ok (.aload_n 2, 1) := by decide +kernel
theorem dL_law_1237 : decode cL_law 1237 = .ok (.aload_n 0, 1) := by decide +kernel
theorem dL_law_1238 : decode cL_law 1238 = .ok (.iload 4, 2) := by decide +kernel
theorem dL_law_1240 : decode cL_law 1240 = .ok (.iconst 1, 1) := by decide +kernel
theorem dL_law_1241 : decode cL_law 1241 = .ok (.iadd, 1) := by decide +kernel
theorem dL_law_1242 : decode cL_law 1242 = .ok (.iaload, 1) := by decide +kernel
theorem dL_law_1243 : decode cL_law 1243 = .ok (.aload_n 0, 1) := by decide +kernel
theorem dL_law_1244 : decode cL_law 1244 = .ok (.iload 4, 2) := by decide +kernel
theorem dL_law_1246 : decode cL_law 1246 = .ok (.iconst 2, 1) := by decide +kernel
theorem dL_law_1247 : decode cL_law 1247 = .ok (.iadd, 1) := by decide +kernel
theorem dL_law_1248 : decode cL_law 1248 = .ok (.iaload, 1) := by decide +kernel
theorem dL_law_1249 : decode cL_law 1249 = .ok (.i2l, 1) := by decide +kernel
theorem dL_law_1250 : decode cL_law 1250 = .ok (.bipush 32, 2) := by decide +kernel
theorem dL_law_1252 : decode cL_law 1252 = .ok (.lshl, 1) := by decide +kernel
theorem dL_law_1253 : decode cL_law 1253 = .ok (.aload_n 0, 1) := by decide +kernel
theorem dL_law_1254 : decode cL_law 1254 = .ok (.iload 4, 2) := by decide +kernel
theorem dL_law_1256 : decode cL_law 1256 = .ok (.iconst 3, 1) := by decide +kernel
theorem dL_law_1257 : decode cL_law 1257 = .ok (.iadd, 1) := by decide +kernel
theorem dL_law_1258 : decode cL_law 1258 = .ok (.iaload, 1) := by decide +kernel
theorem dL_law_1259 : decode cL_law 1259 = .ok (.i2l, 1) := by decide +kernel
theorem dL_law_1260 : decode cL_law 1260 = .ok (.ldc2_w 164, 3) := by decide +kernel
theorem dL_law_1263 : decode cL_law 1263 = .ok (.land, 1) := by decide +kernel
theorem dL_law_1264 : decode cL_law 1264 = .ok (.lor, 1) := by decide +kernel
theorem dL_law_1265 : decode cL_law 1265 = .ok (.invokevirtual 169, 3) := by decide +kernel
theorem dL_law_1268 : decode cL_law 1268 = .ok (.istore 6, 2) := by decide +kernel
theorem dL_law_1270 : decode cL_law 1270 = .ok (.aload_n 2, 1) := by decide +kernel
theorem dL_law_1271 : decode cL_law 1271 = .ok (.invokevirtual 92, 3) := by decide +kernel
theorem dL_law_1274 : decode cL_law 1274 = .ok (.iload 5, 2) := by decide +kernel
theorem dL_law_1276 : decode cL_law 1276 = .ok (.if_icmp .eq 5, 3) := by decide +kernel
theorem dL_law_1279 : decode cL_law 1279 = .ok (.iconst 0, 1) := by decide +kernel
theorem dL_law_1280 : decode cL_law 1280 = .ok (.ireturn, 1) := by decide +kernel
theorem dL_law_1281 : decode cL_law 1281 = .ok (.iload 5, 2) := by decide +kernel
theorem dL_law_1283 : decode cL_law 1283 = .ok (.ifCond .ne 15, 3) := by decide +kernel
theorem dL_law_1286 : decode cL_law 1286 = .ok (.aload_n 3, 1) := by decide +kernel
theorem dL_law_1287 : decode cL_law 1287 = .ok (.iconst 0, 1) := by decide +kernel
theorem dL_law_1288 : decode cL_law 1288 = .ok (.laload, 1) := by decide +kernel
theorem dL_law_1289 : decode cL_law 1289 = .ok (.iload 6, 2) := by decide +kernel
theorem dL_law_1291 : decode cL_law 1291 = .ok (.i2l, 1) := by decide +kernel
theorem dL_law_1292 : decode cL_law 1292 = .ok (.lcmp, 1) := by decide +kernel
theorem dL_law_1293 : decode cL_law 1293 = .ok (.ifCond .eq 5, 3) := by decide +kernel
theorem dL_law_1296 : decode cL_law 1296 = .ok (.iconst 0, 1) := by decide +kernel
theorem dL_law_1297 : decode cL_law 1297 = .ok (.ireturn, 1) := by decide +kernel
theorem dL_law_1298 : decode cL_law 1298 = .ok (.goto 215, 3) := by decide +kernel
theorem dL_law_1301 : decode cL_law 1301 = .ok (.aload_n 1, 1) := by decide +kernel
theorem dL_law_1302 : decode cL_law 1302 = .ok (.aload_n 0, 1) := by decide +kernel
theorem dL_law_1303 : decode cL_law 1303 = .ok (.iload 4, 2) := by decide +kernel
theorem dL_law_1305 : decode cL_law 1305 = .ok (.iconst 1, 1) := by decide +kernel
theorem dL_law_1306 : decode cL_law 1306 = .ok (.iadd, 1) := by decide +kernel
theorem dL_law_1307 : decode cL_law 1307 = .ok (.iaload, 1) := by decide +kernel
theorem dL_law_1308 : decode cL_law 1308 = .ok (.i2l, 1) := by decide +kernel
theorem dL_law_1309 : decode cL_law 1309 = .ok (.bipush 32, 2) := by decide +kernel
theorem dL_law_1311 : decode cL_law 1311 = .ok (.lshl, 1) := by decide +kernel
theorem dL_law_1312 : decode cL_law 1312 = .ok (.aload_n 0, 1) := by decide +kernel
theorem dL_law_1313 : decode cL_law 1313 = .ok (.iload 4, 2) := by decide +kernel
theorem dL_law_1315 : decode cL_law 1315 = .ok (.iconst 2, 1) := by decide +kernel
theorem dL_law_1316 : decode cL_law 1316 = .ok (.iadd, 1) := by decide +kernel
theorem dL_law_1317 : decode cL_law 1317 = .ok (.iaload, 1) := by decide +kernel
theorem dL_law_1318 : decode cL_law 1318 = .ok (.i2l, 1) := by decide +kernel
theorem dL_law_1319 : decode cL_law 1319 = .ok (.ldc2_w 164, 3) := by decide +kernel
theorem dL_law_1322 : decode cL_law 1322 = .ok (.land, 1) := by decide +kernel
theorem dL_law_1323 : decode cL_law 1323 = .ok (.lor, 1) := by decide +kernel
theorem dL_law_1324 : decode cL_law 1324 = .ok (.aload_n 0, 1) := by decide +kernel
theorem dL_law_1325 : decode cL_law 1325 = .ok (.iload 4, 2) := by decide +kernel
theorem dL_law_1327 : decode cL_law 1327 = .ok (.iconst 3, 1) := by decide +kernel
theorem dL_law_1328 : decode cL_law 1328 = .ok (.iadd, 1) := by decide +kernel
theorem dL_law_1329 : decode cL_law 1329 = .ok (.iaload, 1) := by decide +kernel
theorem dL_law_1330 : decode cL_law 1330 = .ok (.aload_n 3, 1) := by decide +kernel
theorem dL_law_1331 : decode cL_law 1331 = .ok (.invokestatic 170, 3) := by decide +kernel
theorem dL_law_1334 : decode cL_law 1334 = .ok (.istore 5, 2) := by decide +kernel
theorem dL_law_1336 : decode cL_law 1336 = .ok (.aload_n 2, 1) := by decide +kernel
theorem dL_law_1337 : decode cL_law 1337 = .ok (.aload_n 0, 1) := by decide +kernel
theorem dL_law_1338 : decode cL_law 1338 = .ok (.iload 4, 2) := by decide +kernel
theorem dL_law_1340 : decode cL_law 1340 = .ok (.iconst 1, 1) := by decide +kernel
theorem dL_law_1341 : decode cL_law 1341 = .ok (.iadd, 1) := by decide +kernel
theorem dL_law_1342 : decode cL_law 1342 = .ok (.iaload, 1) := by decide +kernel
theorem dL_law_1343 : decode cL_law 1343 = .ok (.i2l, 1) := by decide +kernel
theorem dL_law_1344 : decode cL_law 1344 = .ok (.bipush 32, 2) := by decide +kernel
theorem dL_law_1346 : decode cL_law 1346 = .ok (.lshl, 1) := by decide +kernel
theorem dL_law_1347 : decode cL_law 1347 = .ok (.aload_n 0, 1) := by decide +kernel
theorem dL_law_1348 : decode cL_law 1348 = .ok (.iload 4, 2) := by decide +kernel
theorem dL_law_1350 : decode cL_law 1350 = .ok (.iconst 2, 1) := by decide +kernel
theorem dL_law_1351 : decode cL_law 1351 = .ok (.iadd, 1) := by decide +kernel
theorem dL_law_1352 : decode cL_law 1352 = .ok (.iaload, 1) := by decide +kernel
theorem dL_law_1353 : decode cL_law 1353 = .ok (.i2l, 1) := by decide +kernel
theorem dL_law_1354 : decode cL_law 1354 = .ok (.ldc2_w 164, 3) := by decide +kernel
theorem dL_law_1357 : decode cL_law 1357 = .ok (.land, 1) := by decide +kernel
theorem dL_law_1358 : decode cL_law 1358 = .ok (.lor, 1) := by decide +kernel
theorem dL_law_1359 : decode cL_law 1359 = .ok (.aload_n 0, 1) := by decide +kernel
theorem dL_law_1360 : decode cL_law 1360 = .ok (.iload 4, 2) := by decide +kernel
theorem dL_law_1362 : decode cL_law 1362 = .ok (.iconst 3, 1) := by decide +kernel
theorem dL_law_1363 : decode cL_law 1363 = .ok (.iadd, 1) := by decide +kernel
theorem dL_law_1364 : decode cL_law 1364 = .ok (.iaload, 1) := by decide +kernel
theorem dL_law_1365 : decode cL_law 1365 = .ok (.invokevirtual 173, 3) := by decide +kernel
theorem dL_law_1368 : decode cL_law 1368 = .ok (.istore 6, 2) := by decide +kernel
theorem dL_law_1370 : decode cL_law 1370 = .ok (.aload_n 2, 1) := by decide +kernel
theorem dL_law_1371 : decode cL_law 1371 = .ok (.invokevirtual 92, 3) := by decide +kernel
theorem dL_law_1374 : decode cL_law 1374 = .ok (.iload 5, 2) := by decide +kernel
theorem dL_law_1376 : decode cL_law 1376 = .ok (.if_icmp .eq 5, 3) := by decide +kernel
theorem dL_law_1379 : decode cL_law 1379 = .ok (.iconst 0, 1) := by decide +kernel
theorem dL_law_1380 : decode cL_law 1380 = .ok (.ireturn, 1) := by decide +kernel
theorem dL_law_1381 : decode cL_law 1381 = .ok (.iload 5, 2) := by decide +kernel
theorem dL_law_1383 : decode cL_law 1383 = .ok (.ifCond .ne 15, 3) := by decide +kernel
theorem dL_law_1386 : decode cL_law 1386 = .ok (.aload_n 3, 1) := by decide +kernel
theorem dL_law_1387 : decode cL_law 1387 = .ok (.iconst 0, 1) := by decide +kernel
theorem dL_law_1388 : decode cL_law 1388 = .ok (.laload, 1) := by decide +kernel
theorem dL_law_1389 : decode cL_law 1389 = .ok (.iload 6, 2) := by decide +kernel
theorem dL_law_1391 : decode cL_law 1391 = .ok (.i2l, 1) := by decide +kernel
theorem dL_law_1392 : decode cL_law 1392 = .ok (.lcmp, 1) := by decide +kernel
theorem dL_law_1393 : decode cL_law 1393 = .ok (.ifCond .eq 5, 3) := by decide +kernel
theorem dL_law_1396 : decode cL_law 1396 = .ok (.iconst 0, 1) := by decide +kernel
theorem dL_law_1397 : decode cL_law 1397 = .ok (.ireturn, 1) := by decide +kernel
theorem dL_law_1398 : decode cL_law 1398 = .ok (.goto 115, 3) := by decide +kernel
theorem dL_law_1401 : decode cL_law 1401 = .ok (.aload_n 1, 1) := by decide +kernel
theorem dL_law_1402 : decode cL_law 1402 = .ok (.aload_n 0, 1) := by decide +kernel
theorem dL_law_1403 : decode cL_law 1403 = .ok (.iload 4, 2) := by decide +kernel
theorem dL_law_1405 : decode cL_law 1405 = .ok (.iconst 1, 1) := by decide +kernel
theorem dL_law_1406 : decode cL_law 1406 = .ok (.iadd, 1) := by decide +kernel
theorem dL_law_1407 : decode cL_law 1407 = .ok (.iaload, 1) := by decide +kernel
theorem dL_law_1408 : decode cL_law 1408 = .ok (.aload_n 3, 1) := by decide +kernel
theorem dL_law_1409 : decode cL_law 1409 = .ok (.invokestatic 174, 3) := by decide +kernel
theorem dL_law_1412 : decode cL_law 1412 = .ok (.istore 5, 2) := by decide +kernel
theorem dL_law_1414 : decode cL_law 1414 = .ok (.aload_n 2, 1) := by decide +kernel
theorem dL_law_1415 : decode cL_law 1415 = .ok (.aload_n 0, 1) := by decide +kernel
theorem dL_law_1416 : decode cL_law 1416 = .ok (.iload 4, 2) := by decide +kernel
theorem dL_law_1418 : decode cL_law 1418 = .ok (.iconst 1, 1) := by decide +kernel
theorem dL_law_1419 : decode cL_law 1419 = .ok (.iadd, 1) := by decide +kernel
theorem dL_law_1420 : decode cL_law 1420 = .ok (.iaload, 1) := by decide +kernel
theorem dL_law_1421 : decode cL_law 1421 = .ok (.invokevirtual 176, 3) := by decide +kernel
theorem dL_law_1424 : decode cL_law 1424 = .ok (.istore 6, 2) := by decide +kernel
theorem dL_law_1426 : decode cL_law 1426 = .ok (.aload_n 2, 1) := by decide +kernel
theorem dL_law_1427 : decode cL_law 1427 = .ok (.invokevirtual 92, 3) := by decide +kernel
theorem dL_law_1430 : decode cL_law 1430 = .ok (.iload 5, 2) := by decide +kernel
theorem dL_law_1432 : decode cL_law 1432 = .ok (.if_icmp .eq 5, 3) := by decide +kernel
theorem dL_law_1435 : decode cL_law 1435 = .ok (.iconst 0, 1) := by decide +kernel
theorem dL_law_1436 : decode cL_law 1436 = .ok (.ireturn, 1) := by decide +kernel
theorem dL_law_1437 : decode cL_law 1437 = .ok (.iload 5, 2) := by decide +kernel
theorem dL_law_1439 : decode cL_law 1439 = .ok (.ifCond .ne 15, 3) := by decide +kernel
theorem dL_law_1442 : decode cL_law 1442 = .ok (.aload_n 3, 1) := by decide +kernel
theorem dL_law_1443 : decode cL_law 1443 = .ok (.iconst 0, 1) := by decide +kernel
theorem dL_law_1444 : decode cL_law 1444 = .ok (.laload, 1) := by decide +kernel
theorem dL_law_1445 : decode cL_law 1445 = .ok (.iload 6, 2) := by decide +kernel
theorem dL_law_1447 : decode cL_law 1447 = .ok (.i2l, 1) := by decide +kernel
theorem dL_law_1448 : decode cL_law 1448 = .ok (.lcmp, 1) := by decide +kernel
theorem dL_law_1449 : decode cL_law 1449 = .ok (.ifCond .eq 5, 3) := by decide +kernel
theorem dL_law_1452 : decode cL_law 1452 = .ok (.iconst 0, 1) := by decide +kernel
theorem dL_law_1453 : decode cL_law 1453 = .ok (.ireturn, 1) := by decide +kernel
theorem dL_law_1454 : decode cL_law 1454 = .ok (.goto 59, 3) := by decide +kernel
theorem dL_law_1457 : decode cL_law 1457 = .ok (.aload_n 1, 1) := by decide +kernel
theorem dL_law_1458 : decode cL_law 1458 = .ok (.aload_n 0, 1) := by decide +kernel
theorem dL_law_1459 : decode cL_law 1459 = .ok (.iload 4, 2) := by decide +kernel
theorem dL_law_1461 : decode cL_law 1461 = .ok (.iconst 1, 1) := by decide +kernel
theorem dL_law_1462 : decode cL_law 1462 = .ok (.iadd, 1) := by decide +kernel
theorem dL_law_1463 : decode cL_law 1463 = .ok (.iaload, 1) := by decide +kernel
theorem dL_law_1464 : decode cL_law 1464 = .ok (.aload_n 3, 1) := by decide +kernel
theorem dL_law_1465 : decode cL_law 1465 = .ok (.invokestatic 177, 3) := by decide +kernel
theorem dL_law_1468 : decode cL_law 1468 = .ok (.istore 5, 2) := by decide +kernel
theorem dL_law_1470 : decode cL_law 1470 = .ok (.aload_n 2, 1) := by decide +kernel
theorem dL_law_1471 : decode cL_law 1471 = .ok (.aload_n 0, 1) := by decide +kernel
theorem dL_law_1472 : decode cL_law 1472 = .ok (.iload 4, 2) := by decide +kernel
theorem dL_law_1474 : decode cL_law 1474 = .ok (.iconst 1, 1) := by decide +kernel
theorem dL_law_1475 : decode cL_law 1475 = .ok (.iadd, 1) := by decide +kernel
theorem dL_law_1476 : decode cL_law 1476 = .ok (.iaload, 1) := by decide +kernel
theorem dL_law_1477 : decode cL_law 1477 = .ok (.invokevirtual 179, 3) := by decide +kernel
theorem dL_law_1480 : decode cL_law 1480 = .ok (.istore 6, 2) := by decide +kernel
theorem dL_law_1482 : decode cL_law 1482 = .ok (.aload_n 2, 1) := by decide +kernel
theorem dL_law_1483 : decode cL_law 1483 = .ok (.invokevirtual 92, 3) := by decide +kernel
theorem dL_law_1486 : decode cL_law 1486 = .ok (.iload 5, 2) := by decide +kernel
theorem dL_law_1488 : decode cL_law 1488 = .ok (.if_icmp .eq 5, 3) := by decide +kernel
theorem dL_law_1491 : decode cL_law 1491 = .ok (.iconst 0, 1) := by decide +kernel
theorem dL_law_1492 : decode cL_law 1492 = .ok (.ireturn, 1) := by decide +kernel
theorem dL_law_1493 : decode cL_law 1493 = .ok (.iload 5, 2) := by decide +kernel
theorem dL_law_1495 : decode cL_law 1495 = .ok (.ifCond .ne 15, 3) := by decide +kernel
theorem dL_law_1498 : decode cL_law 1498 = .ok (.aload_n 3, 1) := by decide +kernel
theorem dL_law_1499 : decode cL_law 1499 = .ok (.iconst 0, 1) := by decide +kernel
theorem dL_law_1500 : decode cL_law 1500 = .ok (.laload, 1) := by decide +kernel
theorem dL_law_1501 : decode cL_law 1501 = .ok (.iload 6, 2) := by decide +kernel
theorem dL_law_1503 : decode cL_law 1503 = .ok (.i2l, 1) := by decide +kernel
theorem dL_law_1504 : decode cL_law 1504 = .ok (.lcmp, 1) := by decide +kernel
theorem dL_law_1505 : decode cL_law 1505 = .ok (.ifCond .eq 5, 3) := by decide +kernel
theorem dL_law_1508 : decode cL_law 1508 = .ok (.iconst 0, 1) := by decide +kernel
theorem dL_law_1509 : decode cL_law 1509 = .ok (.ireturn, 1) := by decide +kernel
theorem dL_law_1510 : decode cL_law 1510 = .ok (.goto 3, 3) := by decide +kernel
theorem dL_law_1513 : decode cL_law 1513 = .ok (.iinc 4 4, 3) := by decide +kernel
theorem dL_law_1516 : decode cL_law 1516 = .ok (.goto (-1493), 3) := by decide +kernel
theorem dL_law_1519 : decode cL_law 1519 = .ok (.iconst 1, 1) := by decide +kernel
theorem dL_law_1520 : decode cL_law 1520 = .ok (.ireturn, 1) := by decide +kernel
end
section
/-! ===== the frame: one list of words for all methods; groups of cells; a judgement that speaks of no heap ===== -/
def wG : List Cond := lw_tbl.filter goodWord
theorem wG_in {w : Cond} (i : Nat) (h : lw_tbl[i]? = some w) (hg : goodWord w = true) : w ∈ wG := List.mem_filter.mpr ⟨List.mem_of_getElem? h, hg⟩
theorem wG_tbl : ∀ w ∈ wG, w ∈ lw_tbl := fun _ h => (List.mem_filter.mp h).1
theorem wG_good : ∀ w ∈ wG, (w.onTables && w.keeps) = true ∨ ∃ ty, w = .arrayClass ty := fun _ h => good_of_word (List.mem_filter.mp h).2
/-- a method's words: its own code first, then all -/
def gW (y : MethodName) (cc : ByteArray) (maxL : Nat) (ret : Option FieldType) : List Cond := .code y cc maxL ret :: wG
theorem gW_good {y : MethodName} {cc : ByteArray} {maxL : Nat} {ret : Option FieldType} (h : Cond.code y cc maxL ret ∈ wG) : GoodIn wG (gW y cc maxL ret) := by
  intro w hw
  rcases List.mem_cons.mp hw with rfl | hw
  · exact ⟨h, wG_good _ h⟩
  · exact ⟨hw, wG_good _ hw⟩
/-- the classes of the arrays: int, char, boolean, Table, long -/
abbrev tyG (cy : Nat → ClassId) : List (ClassId × FieldType) := [(cy 0, .int), (cy 1, .char), (cy 2, .boolean), (cy 3, .object "FalsePan$Table"), (cy 4, .long)]
/-- a list's place in the list of all groups -/
theorem fl_get {α : Type} : ∀ (gs : List (List α)) (g k : Nat) {gl : List α} {x : α}, gs[g]? = some gl → gl[k]? = some x → ∃ i, gs.flatten[i]? = some x ∧ ∀ y, (gs.set g (gl.set k y)).flatten = gs.flatten.set i y
  | [], g, k, gl, x, h, _ => by simp at h
  | a :: gs, 0, k, gl, x, h, h2 => by
    simp only [List.getElem?_cons_zero, Option.some.injEq] at h
    subst h
    have hk : k < a.length := (List.getElem?_eq_some_iff.mp h2).1
    refine ⟨k, by rw [List.flatten_cons, List.getElem?_append_left hk]; exact h2, fun y => ?_⟩
    rw [List.set_cons_zero, List.flatten_cons, List.flatten_cons, List.set_append_left _ _ hk]
  | a :: gs, g + 1, k, gl, x, h, h2 => by
    rw [List.getElem?_cons_succ] at h
    obtain ⟨i, h3, h4⟩ := fl_get gs g k h h2
    refine ⟨a.length + i, by rw [List.flatten_cons, List.getElem?_append_right (Nat.le_add_right _ _), Nat.add_sub_cancel_left]; exact h3, fun y => ?_⟩
    rw [List.set_cons_succ, List.flatten_cons, List.flatten_cons, h4 y, List.set_append_right _ _ (Nat.le_add_right _ _), Nat.add_sub_cancel_left]
/-- worlds up to their order -/
theorem gp_P {D : va_G} {cl : List vw_C} {w1 w2 : va_W} {H : Heap} (hp : w1.Perm w2) (h : va_P D cl w1 H) : va_P D cl w2 H := by
  intro k q hk
  obtain ⟨i, hi⟩ := List.getElem?_of_mem (hp.symm.subset (List.mem_of_getElem? hk))
  exact h i q hi
theorem gp_nd : ∀ (w : List Nat), w.Nodup ↔ ∀ i j a : Nat, w[i]? = some a → w[j]? = some a → i = j
  | [] => ⟨fun _ i j a h => by simp at h, fun _ => List.nodup_nil⟩
  | b :: w => by
    rw [List.nodup_cons, gp_nd w]
    refine ⟨fun ⟨h1, h2⟩ i j a hi hj => ?_, fun h => ⟨fun hb => ?_, fun i j a hi hj => ?_⟩⟩
    · cases i with
      | zero =>
        cases j with
        | zero => rfl
        | succ j =>
          rw [List.getElem?_cons_zero] at hi
          rw [List.getElem?_cons_succ] at hj
          cases hi
          exact absurd (List.mem_of_getElem? hj) h1
      | succ i =>
        rw [List.getElem?_cons_succ] at hi
        cases j with
        | zero =>
          rw [List.getElem?_cons_zero] at hj
          cases hj
          exact absurd (List.mem_of_getElem? hi) h1
        | succ j =>
          rw [List.getElem?_cons_succ] at hj
          rw [h2 i j a hi hj]
    · obtain ⟨i, hi⟩ := List.getElem?_of_mem hb
      have := h 0 (i + 1) b (List.getElem?_cons_zero) (by rw [List.getElem?_cons_succ]; exact hi)
      omega
    · have := h (i + 1) (j + 1) a (by rw [List.getElem?_cons_succ]; exact hi) (by rw [List.getElem?_cons_succ]; exact hj)
      omega
theorem gp_iff {A : Nat → Prop} {w : va_W} : va_D A w ↔ (w.map Prod.fst).Nodup ∧ ∀ q ∈ w, A q.1 := by
  rw [gp_nd]
  refine ⟨fun h => ⟨fun i j a hi hj => ?_, fun q hq => ?_⟩, fun h => ⟨fun i j p q hi hj hpq => ?_, fun k q hk => h.2 q (List.mem_of_getElem? hk)⟩⟩
  · rw [List.getElem?_map] at hi hj
    cases h1 : w[i]? with
    | none => rw [h1] at hi; cases hi
    | some p =>
      cases h2 : w[j]? with
      | none => rw [h2] at hj; cases hj
      | some q =>
        rw [h1] at hi
        rw [h2] at hj
        exact h.1 i j p q h1 h2 ((Option.some.inj hi).trans (Option.some.inj hj).symm)
  · obtain ⟨i, hi⟩ := List.getElem?_of_mem hq
    exact h.2 i q hi
  · exact h.1 i j p.1 (by rw [List.getElem?_map, hi]; rfl) (by rw [List.getElem?_map, hj, hpq]; rfl)
theorem gp_D {A : Nat → Prop} {w1 w2 : va_W} (hp : w1.Perm w2) (h : va_D A w1) : va_D A w2 := by
  rw [gp_iff] at h ⊢
  exact ⟨(hp.map Prod.fst).nodup_iff.mp h.1, fun q hq => h.2 q (hp.symm.subset hq)⟩
theorem gp_fl {α : Type} : ∀ {a b : List (List α)}, a.Perm b → a.flatten.Perm b.flatten := by
  intro a b h
  induction h with
  | nil => exact List.Perm.refl _
  | cons x _ ih => rw [List.flatten_cons, List.flatten_cons]; exact List.Perm.append_left x ih
  | swap x y t => rw [List.flatten_cons, List.flatten_cons, List.flatten_cons, List.flatten_cons, ← List.append_assoc, ← List.append_assoc]; exact List.Perm.append_right _ List.perm_append_comm
  | trans _ _ h1 h2 => exact h1.trans h2
theorem gp_range {α : Type} : ∀ gs : List α, (List.range gs.length).filterMap (fun i => gs[i]?) = gs
  | [] => rfl
  | a :: gs => by
    rw [List.length_cons, List.range_succ_eq_map, List.filterMap_cons, List.getElem?_cons_zero]
    show a :: List.filterMap _ _ = a :: gs
    rw [List.filterMap_map]
    exact congrArg (fun l => a :: l) (gp_range gs)
/-- some places of a list, all of them, in any order -/
theorem gp_pick {α : Type} {gs out : List α} {is : List Nat} (hp : is.Perm (List.range gs.length)) (h : is.filterMap (fun i => gs[i]?) = out) : gs.Perm out := by
  subst h
  have h1 := (hp.filterMap (fun i => gs[i]?)).symm
  rw [gp_range] at h1
  exact h1
/-- behind a call: the callee's cells as they are now, and the rest -/
theorem gp_join {A : Nat → Prop} {D : va_G} {cl : List vw_C} {wc wr w1 : va_W} {H H1 : Heap} (hP : va_P D cl (wc ++ wr) H) (hD : va_D A (wc ++ wr))
    (hk : ∀ q : Nat, q < H.size → ¬ va_A wc H.size q → H1[q]? = H[q]?) (hF : ∀ q, va_A wc H.size q → A q) (hP1 : va_P D cl w1 H1) (hD1 : va_D (va_A wc H.size) w1) : va_P D cl (w1 ++ wr) H1 ∧ va_D A (w1 ++ wr) := by
  have hr : ∀ q ∈ wr, q.1 < H.size ∧ ¬ va_A wc H.size q.1 ∧ A q.1 := by
    intro q hq
    obtain ⟨i, hi⟩ := List.getElem?_of_mem hq
    have hi' : (wc ++ wr)[wc.length + i]? = some q := by rw [List.getElem?_append_right (Nat.le_add_right _ _), Nat.add_sub_cancel_left]; exact hi
    have hl := (hP _ q hi').lt
    refine ⟨hl, fun h => ?_, hD.2 _ q hi'⟩
    rcases h with ⟨k, e, h⟩ | h
    · have hk' : k < wc.length := (List.getElem?_eq_some_iff.mp h).1
      have := hD.1 k (wc.length + i) (q.1, e) q (by rw [List.getElem?_append_left hk']; exact h) hi' rfl
      omega
    · omega
  refine ⟨va_P.app hP1 (fun k q hq => ?_), ?_⟩
  · have hm := List.mem_of_getElem? hq
    obtain ⟨h1, h2, -⟩ := hr q hm
    have hi' : (wc ++ wr)[wc.length + k]? = some q := by rw [List.getElem?_append_right (Nat.le_add_right _ _), Nat.add_sub_cancel_left]; exact hq
    exact (hP _ q hi').kept (hk q.1 h1 h2)
  · rw [gp_iff] at hD hD1 ⊢
    rw [List.map_append, List.nodup_append] at hD ⊢
    refine ⟨⟨hD1.1, hD.1.2.1, fun a ha b hb hab => ?_⟩, fun q hq => ?_⟩
    · obtain ⟨q1, hq1, rfl⟩ := List.mem_map.mp ha
      obtain ⟨q2, hq2, rfl⟩ := List.mem_map.mp hb
      exact (hr q2 hq2).2.1 (hab ▸ hD1.2 q1 hq1)
    · rcases List.mem_append.mp hq with h | h
      · exact hF _ (hD1.2 q h)
      · exact (hr q h).2.2
/-! results that may be none -/
theorem oguard {α : Type} {c : Prop} {h : Decidable c} {o : Option α} {x : α} (hf : @ite _ c h none o = some x) : ¬ c ∧ o = some x := by
  by_cases hc : c
  · rw [if_pos hc] at hf; cases hf
  · rw [if_neg hc] at hf; exact ⟨hc, hf⟩
theorem obind {α β : Type} {o : Option α} {f : α → Option β} {x : β} (hf : o.bind f = some x) : ∃ q, o = some q ∧ f q = some x := by
  cases o with
  | none => cases hf
  | some q => exact ⟨q, rfl, hf⟩
theorem opos {α : Type} {c : Prop} {h : Decidable c} {a b : α} {x : α} (hc : c) (hf : @ite _ c h a b = x) : a = x := by rw [if_pos hc] at hf; exact hf
theorem oneg {α : Type} {c : Prop} {h : Decidable c} {a b : α} {x : α} (hc : ¬ c) (hf : @ite _ c h a b = x) : b = x := by rw [if_neg hc] at hf; exact hf
/-- a loop: the body goes on with a state, or leaves with an end -/
def itl {S E : Type} (f : S → Option (S ⊕ E)) : Nat → S → Option E
  | 0, _ => none
  | n + 1, s => (f s).bind (Sum.elim (itl f n) some)
theorem itl_ind {S E : Type} {f : S → Option (S ⊕ E)} {I : S → Prop} {J : E → Prop} (hs : ∀ s x, f s = some x → (∀ s', x = .inl s' → I s') → (∀ e', x = .inr e' → J e') → I s) : ∀ n s e, itl f n s = some e → J e → I s := by
  intro n
  induction n with
  | zero => intro s e h; cases h
  | succ n ih =>
    intro s e h hj
    obtain ⟨x, h1, h2⟩ := obind (o := f s) h
    cases x with
    | inl s1 => exact hs s _ h1 (fun s' hx => by cases hx; exact ih s1 e h2 hj) (fun e' hx => nomatch hx)
    | inr e1 => exact hs s _ h1 (fun s' hx => nomatch hx) (fun e' hx => by cases hx; cases h2; exact hj)
theorem sinl {S E α : Type} {f : S → α} {g : E → α} {q : S} {x : α} (h : Sum.elim f g (.inl q) = x) : f q = x := h
theorem sinr {S E α : Type} {f : S → α} {g : E → α} {q : E} {x : α} (h : Sum.elim f g (.inr q) = x) : g q = x := h
def FU : Nat := 6000
/-- 0 or 1 -/
def b2i (b : Bool) : Int32 := if b then 1 else 0
theorem b2i_nar (b : Bool) : narrow .boolean (.int (b2i b)) = .int (b2i b) := by cases b <;> decide
/-- which exception: 1 IllegalArgument, 2 IllegalState, 3 IndexOutOfBounds -/
def exN : Nat → String
  | 1 => "java/lang/IllegalArgumentException"
  | 2 => "java/lang/IllegalStateException"
  | _ => "java/lang/IndexOutOfBoundsException"
/-! what a method needs of cells that nobody writes: the literals, two statics of Throwable, one of String -/
def stTab : List (String × Nat × String × List Int32) := [("FalsePan$Text", 26, "P", [80]), ("FalsePan$Text", 39, "lht", [108, 104, 116]), ("FalsePan$Text", 47, "wa", [119, 97]), ("FalsePan$Text", 59, "v", [118]), ("FalsePan$Text", 64, ".", [46]), ("FalsePan", 69, "the character code is not 0 to 255", []), ("FalsePan", 80, "the text is full", []), ("FalsePan", 108, "the text is not a table", []), ("FalsePan", 176, "what is not 0 to 8", []), ("FalsePan", 184, "there is no such coin", []), ("FalsePan", 194, "there is no such case", []), ("FalsePan", 199, "there is no such weighing", []), ("FalsePan", 201, "what is not 0 to 5", []), ("FalsePan", 207, "the coins are not 3 to 12", []), ("FalsePan", 219, "an arm is not 1 to 20", []), ("FalsePan", 318, "these sets cannot be weighed", []), ("FalsePan", 227, "there are 20 weighings", []), ("FalsePan", 239, "the pan is not 0 to 2", []), ("FalsePan", 244, "there is no weighing", []), ("FalsePan", 251, "no state is remembered", []), ("FalsePan", 256, "there is no such outcome", []), ("FalsePan", 265, "j is not 1 or 2", []), ("FalsePan", 267, "what is not 0 to 2", []), ("FalsePan", 282, "n is not 1 to 3", []), ("FalsePan", 288, "the script is negative or too long", []), ("FalsePan", 298, "m is not 1 to 60", []), ("FalsePan", 308, "there is no such save slot", []), ("FalsePan", 313, "nothing has been saved in the slot", [])]
def stO (i : Nat) : String := (stTab.getD i ("", 0, "", [])).1
def stK (i : Nat) : Nat := (stTab.getD i ("", 0, "", [])).2.1
def stT (i : Nat) : String := (stTab.getD i ("", 0, "", [])).2.2.1
def stB (i : Nat) : List Int32 := (stTab.getD i ("", 0, "", [])).2.2.2
/-- calls of nest mates' private methods: who, place, method, host -/
def neTab : List (String × Nat × MethodName × String) := [("FalsePan", 9, yX6_init, "FalsePan"), ("FalsePan", 18, yX4_init, "FalsePan"), ("FalsePan$Table", 17, yX3_init, "FalsePan"), ("FalsePan$Table", 24, yX1_init, "FalsePan"), ("FalsePan$History", 17, yX4_init, "FalsePan"), ("FalsePan", 35, yX2_init, "FalsePan"), ("FalsePan$Slot", 9, yX4_init, "FalsePan"), ("FalsePan", 45, yX5_init, "FalsePan"), ("FalsePan$Table", 67, yX7_isArm, "FalsePan"), ("FalsePan$Table", 63, yX7_casesOf, "FalsePan")]
def caTab : List String := ["java/lang/IllegalArgumentException", "java/lang/IllegalStateException", "java/lang/IndexOutOfBoundsException"]
def ncTab : List (String × String) := [("java/lang/IllegalStateException", "java/lang/IllegalArgumentException"), ("java/lang/IllegalArgumentException", "java/lang/IndexOutOfBoundsException"), ("java/lang/IllegalStateException", "java/lang/IndexOutOfBoundsException")]
def deTab : List MethodName := [⟨"java/lang/RuntimeException", "<init>", "(Ljava/lang/String;)V"⟩, ⟨"java/lang/Exception", "<init>", "(Ljava/lang/String;)V"⟩, ⟨"java/lang/Throwable", "<init>", "(Ljava/lang/String;)V"⟩, ⟨"java/lang/RuntimeException", "<init>", "()V"⟩, ⟨"java/lang/Exception", "<init>", "()V"⟩, ⟨"java/lang/Throwable", "<init>", "()V"⟩]
def gE (ad : (Nat → Nat) × (Nat → Nat)) (A : Nat → Prop) (U : State) : Prop :=
  (∀ i, i < 5 → va_O "java/lang/String" (ad.1 i) A U U.heap ∧ va_OF "java/lang/String" "coder" "B" (.int 0) (ad.1 i) A U U.heap ∧ va_OF "java/lang/String" "value" "[B" (.ref (ad.2 i)) (ad.1 i) A U U.heap ∧ va_T .byte (ad.2 i) (stB i).length (fun j => .int ((stB i).getD j 0)) A U U.heap) ∧
  (∀ i, i < 28 → vk_R (stO i) (stK i) (stT i) (ad.1 i) U) ∧ va_Z "java/lang/String" "COMPACT_STRINGS" "Z" (.int 1) A U U.heap ∧ vx_Zq Bundle.tN "UNASSIGNED_STACK" Bundle.steD A U U.heap ∧ vx_Zq Bundle.tN "SUPPRESSED_SENTINEL" Bundle.listD A U U.heap ∧
  (∀ q ∈ neTab, va_Nw (.methodLinkNest q.1 q.2.1 q.2.2.1 q.2.2.2) U) ∧ (∀ q ∈ caTab, va_Nw (.castable q q) U) ∧ (∀ q ∈ ncTab, va_Nc q.1 q.2 U) ∧ ∀ q ∈ deTab, va_Nw (.declares q) U
theorem gE_go {ad : (Nat → Nat) × (Nat → Nat)} {A A' : Nat → Prop} {s U : State} {H : Heap} {locs : List Loc} (h : gE ad A s) (hS : va_S A s.heap H locs) (hU : U.heap = H) (hW : s.WarmedH U.vm) (hA : ∀ q, A' q → A q) : gE ad A' U := by
  subst hU
  refine ⟨fun i hi => ?_, fun i hi => vk_R.warm hW (h.2.1 i hi), ((h.2.2.1.moved hW.alike).kept hS.2.1).narrow hA, ((h.2.2.2.1.moved hW.alike).kept hS.2.1).narrow hA, ((h.2.2.2.2.1.moved hW.alike).kept hS.2.1).narrow hA, fun q hq => va_Nw.warmM hW (h.2.2.2.2.2.1 q hq), fun q hq => va_Nw.warmC hW (h.2.2.2.2.2.2.1 q hq), fun q hq => (h.2.2.2.2.2.2.2.1 q hq).moved hW.alike, fun q hq => va_Nw.warmD hW (h.2.2.2.2.2.2.2.2 q hq)⟩
  obtain ⟨h1, h2, h3, h4⟩ := h.1 i hi
  exact ⟨((va_O.moved hW.alike h1).kept hS.2.1).narrow hA, ((va_OF.moved hW.alike h2).kept hS.2.1).narrow hA, ((va_OF.moved hW.alike h3).kept hS.2.1).narrow hA, ((va_T.moved hW.alike h4).kept hS.2.1).narrow hA⟩
theorem gE_calling {ad : (Nat → Nat) × (Nat → Nat)} {A : Nat → Prop} {U : State} {g : JFrame} {mk : MethodId} {a : Array Value} (h : gE ad A U) : gE ad A (U.calling g mk a) := by
  have hvm : U.vm.Alike (U.calling g mk a).vm := Vm.Alike.refl U.vm
  refine ⟨fun i hi => ?_, fun i hi => vk_R.same (u := U) rfl (h.2.1 i hi), h.2.2.1.moved hvm, h.2.2.2.1.moved hvm, h.2.2.2.2.1.moved hvm, fun q hq => va_Nw.same rfl rfl (h.2.2.2.2.2.1 q hq), fun q hq => va_Nw.same rfl rfl (h.2.2.2.2.2.2.1 q hq), fun q hq => (h.2.2.2.2.2.2.2.1 q hq).moved hvm, fun q hq => va_Nw.same rfl rfl (h.2.2.2.2.2.2.2.2 q hq)⟩
  obtain ⟨h1, h2, h3, h4⟩ := h.1 i hi
  exact ⟨va_O.moved hvm h1, va_OF.moved hvm h2, va_OF.moved hvm h3, va_T.moved hvm h4⟩
/-! the judgement -/
def GW (p : Program) (l : Launch) (e : Env) (R : Room) (s : State) (m : MethodId) (args : Array Value) (below : List Frame) (meth : Method) (c : Code) (A : Nat → Prop) (D : va_G) (nL cells slots : Nat) (Q : State → Prop) (pc : Nat) (lv : List (Nat × Value)) (st : List Value) (gs : List va_W) : Prop :=
  ∀ (H : Heap) (locs : List Loc) (ls : Array Slot), va_P D vwCl gs.flatten H → va_D A gs.flatten → va_S A s.heap H locs → lv_has ls nL lv → W p l e R s m args below meth c H locs cells slots Q (F0 m pc ls st)
/-- what stands fast in a method -/
def gK (p : Program) (s : State) (m : MethodId) (args : Array Value) (meth : Method) (c : Code) (A : Nat → Prop) (D : va_G) (cy : Nat → ClassId) (ad : (Nat → Nat) × (Nat → Nat)) (cc : ByteArray) (nL : Nat) (own : String) : Prop :=
  p.tables.exec = Jvm.exec ∧ c.code = cc ∧ c.maxLocals = nL ∧ s.vm.findClass own = some m.cls ∧ (∀ w ∈ wG, w.before args s = true) ∧ va_K D vwCl (tyG cy) s ∧ (∀ q, s.heap.size ≤ q → A q) ∧ meth.locks = false ∧ gE ad A s
section GWR
variable {p : Program} {l : Launch} {e : Env} {R : Room} {s : State} {m : MethodId} {args : Array Value} {below : List Frame} {meth : Method} {c : Code} {cells slots : Nat} {Q : State → Prop} {A : Nat → Prop} {D : va_G} {cy : Nat → ClassId} {ad : (Nat → Nat) × (Nat → Nat)} {cc : ByteArray} {nL : Nat} {own : String} {pc : Nat} {lv : List (Nat × Value)} {st rest : List Value} {gs : List va_W}
theorem g_iload_n (X : gK p s m args meth c A D cy ad cc nL own) {k : Fin 4} {x : Int32} (d : decode cc pc = .ok (.iload_n k, 1)) (j : Nat) {i : Nat} (h : lv[j]? = some (i, .int x)) (hi : (k : Nat) = i) (K : GW p l e R s m args below meth c A D nL cells slots Q (pc + 1) lv (.int x :: st) gs) : GW p l e R s m args below meth c A D nL cells slots Q pc lv st gs := fun H locs ls hP hD hS hl => lv_iload_n X.1 X.2.1 d hi (lv_at hl j h) (K H locs ls hP hD hS hl)
theorem g_aload_n (X : gK p s m args meth c A D cy ad cc nL own) {k : Fin 4} {x : Nat} (d : decode cc pc = .ok (.aload_n k, 1)) (j : Nat) {i : Nat} (h : lv[j]? = some (i, .ref x)) (hi : (k : Nat) = i) (K : GW p l e R s m args below meth c A D nL cells slots Q (pc + 1) lv (.ref x :: st) gs) : GW p l e R s m args below meth c A D nL cells slots Q pc lv st gs := fun H locs ls hP hD hS hl => lv_aload_n X.1 X.2.1 d hi (lv_at hl j h) (K H locs ls hP hD hS hl)
theorem g_lload_n (X : gK p s m args meth c A D cy ad cc nL own) {k : Fin 4} {x : Int64} (d : decode cc pc = .ok (.lload_n k, 1)) (j : Nat) {i : Nat} (h : lv[j]? = some (i, .long x)) (hi : (k : Nat) = i) (K : GW p l e R s m args below meth c A D nL cells slots Q (pc + 1) lv (.long x :: st) gs) : GW p l e R s m args below meth c A D nL cells slots Q pc lv st gs := fun H locs ls hP hD hS hl => lv_lload_n X.1 X.2.1 d hi (lv_at hl j h) (K H locs ls hP hD hS hl)
theorem g_iload (X : gK p s m args meth c A D cy ad cc nL own) {i : Nat} {x : Int32} (d : decode cc pc = .ok (.iload i, 2)) (j : Nat) (h : lv[j]? = some (i, .int x)) (K : GW p l e R s m args below meth c A D nL cells slots Q (pc + 2) lv (.int x :: st) gs) : GW p l e R s m args below meth c A D nL cells slots Q pc lv st gs := fun H locs ls hP hD hS hl => lv_iload X.1 X.2.1 d (lv_at hl j h) (K H locs ls hP hD hS hl)
theorem g_aload (X : gK p s m args meth c A D cy ad cc nL own) {i : Nat} {x : Nat} (d : decode cc pc = .ok (.aload i, 2)) (j : Nat) (h : lv[j]? = some (i, .ref x)) (K : GW p l e R s m args below meth c A D nL cells slots Q (pc + 2) lv (.ref x :: st) gs) : GW p l e R s m args below meth c A D nL cells slots Q pc lv st gs := fun H locs ls hP hD hS hl => lv_aload X.1 X.2.1 d (lv_at hl j h) (K H locs ls hP hD hS hl)
theorem g_lload (X : gK p s m args meth c A D cy ad cc nL own) {i : Nat} {x : Int64} (d : decode cc pc = .ok (.lload i, 2)) (j : Nat) (h : lv[j]? = some (i, .long x)) (K : GW p l e R s m args below meth c A D nL cells slots Q (pc + 2) lv (.long x :: st) gs) : GW p l e R s m args below meth c A D nL cells slots Q pc lv st gs := fun H locs ls hP hD hS hl => lv_lload X.1 X.2.1 d (lv_at hl j h) (K H locs ls hP hD hS hl)
theorem g_iconst (X : gK p s m args meth c A D cy ad cc nL own) {n : Int} (v : Int32) (d : decode cc pc = .ok (.iconst n, 1)) (hv : Int32.ofInt n = v) (K : GW p l e R s m args below meth c A D nL cells slots Q (pc + 1) lv (.int v :: st) gs) : GW p l e R s m args below meth c A D nL cells slots Q pc lv st gs := fun H locs ls hP hD hS hl => lv_iconst X.1 X.2.1 d hv (K H locs ls hP hD hS hl)
theorem g_bipush (X : gK p s m args meth c A D cy ad cc nL own) {n : Int} (v : Int32) (d : decode cc pc = .ok (.bipush n, 2)) (hv : (Int8.ofInt n).toInt32 = v) (K : GW p l e R s m args below meth c A D nL cells slots Q (pc + 2) lv (.int v :: st) gs) : GW p l e R s m args below meth c A D nL cells slots Q pc lv st gs := fun H locs ls hP hD hS hl => lv_bipush X.1 X.2.1 d hv (K H locs ls hP hD hS hl)
theorem g_sipush (X : gK p s m args meth c A D cy ad cc nL own) {n : Int} (v : Int32) (d : decode cc pc = .ok (.sipush n, 3)) (hv : (Int16.ofInt n).toInt32 = v) (K : GW p l e R s m args below meth c A D nL cells slots Q (pc + 3) lv (.int v :: st) gs) : GW p l e R s m args below meth c A D nL cells slots Q pc lv st gs := fun H locs ls hP hD hS hl => lv_sipush X.1 X.2.1 d hv (K H locs ls hP hD hS hl)
theorem g_lconst (X : gK p s m args meth c A D cy ad cc nL own) {n : Fin 2} (v : Int64) (d : decode cc pc = .ok (.lconst n, 1)) (hv : Int64.ofNat (n : Nat) = v) (K : GW p l e R s m args below meth c A D nL cells slots Q (pc + 1) lv (.long v :: st) gs) : GW p l e R s m args below meth c A D nL cells slots Q pc lv st gs := fun H locs ls hP hD hS hl => lv_lconst X.1 X.2.1 d hv (K H locs ls hP hD hS hl)
theorem g_ldc (X : gK p s m args meth c A D cy ad cc nL own) {n : Nat} {v : Int32} (hw : Cond.constant own n v ∈ wG) (d : decode cc pc = .ok (.ldc n, 2)) (K : GW p l e R s m args below meth c A D nL cells slots Q (pc + 2) lv (.int v :: st) gs) : GW p l e R s m args below meth c A D nL cells slots Q pc lv st gs := fun H locs ls hP hD hS hl => lv_ldc X.1 X.2.1 X.2.2.2.1 (X.2.2.2.2.1 _ hw) d (K H locs ls hP hD hS hl)
theorem g_ldcw (X : gK p s m args meth c A D cy ad cc nL own) {n : Nat} {v : Int32} (hw : Cond.constant own n v ∈ wG) (d : decode cc pc = .ok (.ldc_w n, 3)) (K : GW p l e R s m args below meth c A D nL cells slots Q (pc + 3) lv (.int v :: st) gs) : GW p l e R s m args below meth c A D nL cells slots Q pc lv st gs := fun H locs ls hP hD hS hl => lv_ldcw X.1 X.2.1 X.2.2.2.1 (X.2.2.2.2.1 _ hw) d (K H locs ls hP hD hS hl)
theorem g_ldc2 (X : gK p s m args meth c A D cy ad cc nL own) {n : Nat} {v : Int64} (hw : Cond.constantLong own n v ∈ wG) (d : decode cc pc = .ok (.ldc2_w n, 3)) (K : GW p l e R s m args below meth c A D nL cells slots Q (pc + 3) lv (.long v :: st) gs) : GW p l e R s m args below meth c A D nL cells slots Q pc lv st gs := fun H locs ls hP hD hS hl => lv_ldc2 X.1 X.2.1 X.2.2.2.1 (X.2.2.2.2.1 _ hw) d (K H locs ls hP hD hS hl)
theorem g_null (X : gK p s m args meth c A D cy ad cc nL own) (d : decode cc pc = .ok (.aconst_null, 1)) (K : GW p l e R s m args below meth c A D nL cells slots Q (pc + 1) lv (.null :: st) gs) : GW p l e R s m args below meth c A D nL cells slots Q pc lv st gs := fun H locs ls hP hD hS hl => lv_null X.1 X.2.1 d (K H locs ls hP hD hS hl)
theorem g_iadd (X : gK p s m args meth c A D cy ad cc nL own) {x y : Int32} (d : decode cc pc = .ok (.iadd, 1)) (K : GW p l e R s m args below meth c A D nL cells slots Q (pc + 1) lv (.int (x + y) :: st) gs) : GW p l e R s m args below meth c A D nL cells slots Q pc lv (.int y :: .int x :: st) gs := fun H locs ls hP hD hS hl => lv_iadd X.1 X.2.1 d (K H locs ls hP hD hS hl)
theorem g_isub (X : gK p s m args meth c A D cy ad cc nL own) {x y : Int32} (d : decode cc pc = .ok (.isub, 1)) (K : GW p l e R s m args below meth c A D nL cells slots Q (pc + 1) lv (.int (x - y) :: st) gs) : GW p l e R s m args below meth c A D nL cells slots Q pc lv (.int y :: .int x :: st) gs := fun H locs ls hP hD hS hl => lv_isub X.1 X.2.1 d (K H locs ls hP hD hS hl)
theorem g_imul (X : gK p s m args meth c A D cy ad cc nL own) {x y : Int32} (d : decode cc pc = .ok (.imul, 1)) (K : GW p l e R s m args below meth c A D nL cells slots Q (pc + 1) lv (.int (x * y) :: st) gs) : GW p l e R s m args below meth c A D nL cells slots Q pc lv (.int y :: .int x :: st) gs := fun H locs ls hP hD hS hl => lv_imul X.1 X.2.1 d (K H locs ls hP hD hS hl)
theorem g_iand (X : gK p s m args meth c A D cy ad cc nL own) {x y : Int32} (d : decode cc pc = .ok (.iand, 1)) (K : GW p l e R s m args below meth c A D nL cells slots Q (pc + 1) lv (.int (x &&& y) :: st) gs) : GW p l e R s m args below meth c A D nL cells slots Q pc lv (.int y :: .int x :: st) gs := fun H locs ls hP hD hS hl => lv_iand X.1 X.2.1 d (K H locs ls hP hD hS hl)
theorem g_ior (X : gK p s m args meth c A D cy ad cc nL own) {x y : Int32} (d : decode cc pc = .ok (.ior, 1)) (K : GW p l e R s m args below meth c A D nL cells slots Q (pc + 1) lv (.int (x ||| y) :: st) gs) : GW p l e R s m args below meth c A D nL cells slots Q pc lv (.int y :: .int x :: st) gs := fun H locs ls hP hD hS hl => lv_ior X.1 X.2.1 d (K H locs ls hP hD hS hl)
theorem g_ixor (X : gK p s m args meth c A D cy ad cc nL own) {x y : Int32} (d : decode cc pc = .ok (.ixor, 1)) (K : GW p l e R s m args below meth c A D nL cells slots Q (pc + 1) lv (.int (x ^^^ y) :: st) gs) : GW p l e R s m args below meth c A D nL cells slots Q pc lv (.int y :: .int x :: st) gs := fun H locs ls hP hD hS hl => lv_ixor X.1 X.2.1 d (K H locs ls hP hD hS hl)
theorem g_ishl (X : gK p s m args meth c A D cy ad cc nL own) {x y : Int32} (d : decode cc pc = .ok (.ishl, 1)) (K : GW p l e R s m args below meth c A D nL cells slots Q (pc + 1) lv (.int (x <<< (y &&& 31)) :: st) gs) : GW p l e R s m args below meth c A D nL cells slots Q pc lv (.int y :: .int x :: st) gs := fun H locs ls hP hD hS hl => lv_ishl X.1 X.2.1 d (K H locs ls hP hD hS hl)
theorem g_ishr (X : gK p s m args meth c A D cy ad cc nL own) {x y : Int32} (d : decode cc pc = .ok (.ishr, 1)) (K : GW p l e R s m args below meth c A D nL cells slots Q (pc + 1) lv (.int (x >>> (y &&& 31)) :: st) gs) : GW p l e R s m args below meth c A D nL cells slots Q pc lv (.int y :: .int x :: st) gs := fun H locs ls hP hD hS hl => lv_ishr X.1 X.2.1 d (K H locs ls hP hD hS hl)
theorem g_idiv (X : gK p s m args meth c A D cy ad cc nL own) {x y : Int32} (d : decode cc pc = .ok (.idiv, 1)) (hne : ¬ y = 0) (K : GW p l e R s m args below meth c A D nL cells slots Q (pc + 1) lv (.int (x / y) :: st) gs) : GW p l e R s m args below meth c A D nL cells slots Q pc lv (.int y :: .int x :: st) gs := fun H locs ls hP hD hS hl => lv_idiv X.1 X.2.1 d hne (K H locs ls hP hD hS hl)
theorem g_irem (X : gK p s m args meth c A D cy ad cc nL own) {x y : Int32} (d : decode cc pc = .ok (.irem, 1)) (hne : ¬ y = 0) (K : GW p l e R s m args below meth c A D nL cells slots Q (pc + 1) lv (.int (x - x / y * y) :: st) gs) : GW p l e R s m args below meth c A D nL cells slots Q pc lv (.int y :: .int x :: st) gs := fun H locs ls hP hD hS hl => lv_irem X.1 X.2.1 d hne (K H locs ls hP hD hS hl)
theorem g_iushr (X : gK p s m args meth c A D cy ad cc nL own) {x y : Int32} (d : decode cc pc = .ok (.iushr, 1)) (K : GW p l e R s m args below meth c A D nL cells slots Q (pc + 1) lv (.int ((x.toUInt32 >>> (y.toUInt32 &&& Int32.toUInt32 31)).toInt32) :: st) gs) : GW p l e R s m args below meth c A D nL cells slots Q pc lv (.int y :: .int x :: st) gs := fun H locs ls hP hD hS hl => lv_iushr X.1 X.2.1 d rfl (K H locs ls hP hD hS hl)
theorem g_ladd (X : gK p s m args meth c A D cy ad cc nL own) {x y : Int64} (d : decode cc pc = .ok (.ladd, 1)) (K : GW p l e R s m args below meth c A D nL cells slots Q (pc + 1) lv (.long (x + y) :: st) gs) : GW p l e R s m args below meth c A D nL cells slots Q pc lv (.long y :: .long x :: st) gs := fun H locs ls hP hD hS hl => lv_ladd X.1 X.2.1 d (K H locs ls hP hD hS hl)
theorem g_lsub (X : gK p s m args meth c A D cy ad cc nL own) {x y : Int64} (d : decode cc pc = .ok (.lsub, 1)) (K : GW p l e R s m args below meth c A D nL cells slots Q (pc + 1) lv (.long (x - y) :: st) gs) : GW p l e R s m args below meth c A D nL cells slots Q pc lv (.long y :: .long x :: st) gs := fun H locs ls hP hD hS hl => lv_lsub X.1 X.2.1 d (K H locs ls hP hD hS hl)
theorem g_lmul (X : gK p s m args meth c A D cy ad cc nL own) {x y : Int64} (d : decode cc pc = .ok (.lmul, 1)) (K : GW p l e R s m args below meth c A D nL cells slots Q (pc + 1) lv (.long (x * y) :: st) gs) : GW p l e R s m args below meth c A D nL cells slots Q pc lv (.long y :: .long x :: st) gs := fun H locs ls hP hD hS hl => lv_lmul X.1 X.2.1 d (K H locs ls hP hD hS hl)
theorem g_land (X : gK p s m args meth c A D cy ad cc nL own) {x y : Int64} (d : decode cc pc = .ok (.land, 1)) (K : GW p l e R s m args below meth c A D nL cells slots Q (pc + 1) lv (.long (x &&& y) :: st) gs) : GW p l e R s m args below meth c A D nL cells slots Q pc lv (.long y :: .long x :: st) gs := fun H locs ls hP hD hS hl => lv_land X.1 X.2.1 d (K H locs ls hP hD hS hl)
theorem g_lor (X : gK p s m args meth c A D cy ad cc nL own) {x y : Int64} (d : decode cc pc = .ok (.lor, 1)) (K : GW p l e R s m args below meth c A D nL cells slots Q (pc + 1) lv (.long (x ||| y) :: st) gs) : GW p l e R s m args below meth c A D nL cells slots Q pc lv (.long y :: .long x :: st) gs := fun H locs ls hP hD hS hl => lv_lor X.1 X.2.1 d (K H locs ls hP hD hS hl)
theorem g_ldiv (X : gK p s m args meth c A D cy ad cc nL own) {x y : Int64} (d : decode cc pc = .ok (.ldiv, 1)) (hne : ¬ y = 0) (K : GW p l e R s m args below meth c A D nL cells slots Q (pc + 1) lv (.long (x / y) :: st) gs) : GW p l e R s m args below meth c A D nL cells slots Q pc lv (.long y :: .long x :: st) gs := fun H locs ls hP hD hS hl => lv_ldiv X.1 X.2.1 d hne (K H locs ls hP hD hS hl)
theorem g_lrem (X : gK p s m args meth c A D cy ad cc nL own) {x y : Int64} (d : decode cc pc = .ok (.lrem, 1)) (hne : ¬ y = 0) (K : GW p l e R s m args below meth c A D nL cells slots Q (pc + 1) lv (.long (x - x / y * y) :: st) gs) : GW p l e R s m args below meth c A D nL cells slots Q pc lv (.long y :: .long x :: st) gs := fun H locs ls hP hD hS hl => lv_lrem X.1 X.2.1 d hne (K H locs ls hP hD hS hl)
theorem g_lshl (X : gK p s m args meth c A D cy ad cc nL own) {x : Int64} {y : Int32} (d : decode cc pc = .ok (.lshl, 1)) (K : GW p l e R s m args below meth c A D nL cells slots Q (pc + 1) lv (.long (x <<< (y.toInt64 &&& 63)) :: st) gs) : GW p l e R s m args below meth c A D nL cells slots Q pc lv (.int y :: .long x :: st) gs := fun H locs ls hP hD hS hl => lv_lshl X.1 X.2.1 d rfl (K H locs ls hP hD hS hl)
theorem g_lushr (X : gK p s m args meth c A D cy ad cc nL own) {x : Int64} {y : Int32} (d : decode cc pc = .ok (.lushr, 1)) (K : GW p l e R s m args below meth c A D nL cells slots Q (pc + 1) lv (.long ((x.toUInt64 >>> (y.toInt64.toUInt64 &&& Int64.toUInt64 63)).toInt64) :: st) gs) : GW p l e R s m args below meth c A D nL cells slots Q pc lv (.int y :: .long x :: st) gs := fun H locs ls hP hD hS hl => lv_lushr X.1 X.2.1 d rfl (K H locs ls hP hD hS hl)
theorem g_lcmp (X : gK p s m args meth c A D cy ad cc nL own) {x y : Int64} (d : decode cc pc = .ok (.lcmp, 1)) (K : GW p l e R s m args below meth c A D nL cells slots Q (pc + 1) lv (.int (lg_cmp x y) :: st) gs) : GW p l e R s m args below meth c A D nL cells slots Q pc lv (.long y :: .long x :: st) gs := fun H locs ls hP hD hS hl => W.lcmp X.1 X.2.1 d (K H locs ls hP hD hS hl)
theorem g_i2l (X : gK p s m args meth c A D cy ad cc nL own) {x : Int32} (d : decode cc pc = .ok (.i2l, 1)) (K : GW p l e R s m args below meth c A D nL cells slots Q (pc + 1) lv (.long x.toInt64 :: st) gs) : GW p l e R s m args below meth c A D nL cells slots Q pc lv (.int x :: st) gs := fun H locs ls hP hD hS hl => lv_i2l X.1 X.2.1 d rfl (K H locs ls hP hD hS hl)
theorem g_l2i (X : gK p s m args meth c A D cy ad cc nL own) {x : Int64} (d : decode cc pc = .ok (.l2i, 1)) (K : GW p l e R s m args below meth c A D nL cells slots Q (pc + 1) lv (.int x.toInt32 :: st) gs) : GW p l e R s m args below meth c A D nL cells slots Q pc lv (.long x :: st) gs := fun H locs ls hP hD hS hl => lv_l2i X.1 X.2.1 d rfl (K H locs ls hP hD hS hl)
theorem g_i2c (X : gK p s m args meth c A D cy ad cc nL own) {x : Int32} (d : decode cc pc = .ok (.i2c, 1)) (K : GW p l e R s m args below meth c A D nL cells slots Q (pc + 1) lv (.int ((x.toUInt32 % 65536).toInt32) :: st) gs) : GW p l e R s m args below meth c A D nL cells slots Q pc lv (.int x :: st) gs := fun H locs ls hP hD hS hl => lv_i2c X.1 X.2.1 d rfl (K H locs ls hP hD hS hl)
theorem g_i2b (X : gK p s m args meth c A D cy ad cc nL own) {x : Int32} (d : decode cc pc = .ok (.i2b, 1)) (K : GW p l e R s m args below meth c A D nL cells slots Q (pc + 1) lv (.int x.toInt8.toInt32 :: st) gs) : GW p l e R s m args below meth c A D nL cells slots Q pc lv (.int x :: st) gs := fun H locs ls hP hD hS hl => lv_i2b X.1 X.2.1 d rfl (K H locs ls hP hD hS hl)
theorem g_dup (X : gK p s m args meth c A D cy ad cc nL own) {v : Value} (d : decode cc pc = .ok (.dup, 1)) (hv : v.category = 1) (K : GW p l e R s m args below meth c A D nL cells slots Q (pc + 1) lv (v :: v :: st) gs) : GW p l e R s m args below meth c A D nL cells slots Q pc lv (v :: st) gs := fun H locs ls hP hD hS hl => lv_dup X.1 X.2.1 d hv (K H locs ls hP hD hS hl)
theorem g_pop (X : gK p s m args meth c A D cy ad cc nL own) {v : Value} (d : decode cc pc = .ok (.pop, 1)) (hv : v.category = 1) (K : GW p l e R s m args below meth c A D nL cells slots Q (pc + 1) lv st gs) : GW p l e R s m args below meth c A D nL cells slots Q pc lv (v :: st) gs := fun H locs ls hP hD hS hl => lv_pop X.1 X.2.1 d hv (K H locs ls hP hD hS hl)
theorem g_dup2 (X : gK p s m args meth c A D cy ad cc nL own) {v w : Value} (d : decode cc pc = .ok (.dup2, 1)) (hv : v.category = 1) (hw : w.category = 1) (K : GW p l e R s m args below meth c A D nL cells slots Q (pc + 1) lv (v :: w :: v :: w :: st) gs) : GW p l e R s m args below meth c A D nL cells slots Q pc lv (v :: w :: st) gs := fun H locs ls hP hD hS hl => lv_dup2_11 X.1 X.2.1 d hv hw (K H locs ls hP hD hS hl)
theorem g_goto (X : gK p s m args meth c A D cy ad cc nL own) {off : Int} (tgt : Nat) (d : decode cc pc = .ok (.goto off, 3)) (ht : (pc : Int) + off = (tgt : Int)) (K : GW p l e R s m args below meth c A D nL cells slots Q tgt lv st gs) : GW p l e R s m args below meth c A D nL cells slots Q pc lv st gs := fun H locs ls hP hD hS hl => lv_goto X.1 X.2.1 d ht (K H locs ls hP hD hS hl)
theorem g_if_eq (X : gK p s m args meth c A D cy ad cc nL own) {x : Int32} {off : Int} (tgt : Nat) (d : decode cc pc = .ok (.ifCond .eq off, 3)) (ht : (pc : Int) + off = (tgt : Int)) (kt : x = 0 → GW p l e R s m args below meth c A D nL cells slots Q tgt lv st gs) (kf : ¬ x = 0 → GW p l e R s m args below meth c A D nL cells slots Q (pc + 3) lv st gs) : GW p l e R s m args below meth c A D nL cells slots Q pc lv (.int x :: st) gs := fun H locs ls hP hD hS hl => lv_if_eq X.1 X.2.1 d ht (fun z => kt z H locs ls hP hD hS hl) (fun z => kf z H locs ls hP hD hS hl)
theorem g_if_ne (X : gK p s m args meth c A D cy ad cc nL own) {x : Int32} {off : Int} (tgt : Nat) (d : decode cc pc = .ok (.ifCond .ne off, 3)) (ht : (pc : Int) + off = (tgt : Int)) (kt : ¬ x = 0 → GW p l e R s m args below meth c A D nL cells slots Q tgt lv st gs) (kf : x = 0 → GW p l e R s m args below meth c A D nL cells slots Q (pc + 3) lv st gs) : GW p l e R s m args below meth c A D nL cells slots Q pc lv (.int x :: st) gs := fun H locs ls hP hD hS hl => lv_if_ne X.1 X.2.1 d ht (fun z => kt z H locs ls hP hD hS hl) (fun z => kf z H locs ls hP hD hS hl)
theorem g_if_lt (X : gK p s m args meth c A D cy ad cc nL own) {x : Int32} {off : Int} (tgt : Nat) (d : decode cc pc = .ok (.ifCond .lt off, 3)) (ht : (pc : Int) + off = (tgt : Int)) (kt : x < 0 → GW p l e R s m args below meth c A D nL cells slots Q tgt lv st gs) (kf : ¬ x < 0 → GW p l e R s m args below meth c A D nL cells slots Q (pc + 3) lv st gs) : GW p l e R s m args below meth c A D nL cells slots Q pc lv (.int x :: st) gs := fun H locs ls hP hD hS hl => lv_if_lt X.1 X.2.1 d ht (fun z => kt z H locs ls hP hD hS hl) (fun z => kf z H locs ls hP hD hS hl)
theorem g_if_ge (X : gK p s m args meth c A D cy ad cc nL own) {x : Int32} {off : Int} (tgt : Nat) (d : decode cc pc = .ok (.ifCond .ge off, 3)) (ht : (pc : Int) + off = (tgt : Int)) (kt : 0 ≤ x → GW p l e R s m args below meth c A D nL cells slots Q tgt lv st gs) (kf : ¬ 0 ≤ x → GW p l e R s m args below meth c A D nL cells slots Q (pc + 3) lv st gs) : GW p l e R s m args below meth c A D nL cells slots Q pc lv (.int x :: st) gs := fun H locs ls hP hD hS hl => lv_if_ge X.1 X.2.1 d ht (fun z => kt z H locs ls hP hD hS hl) (fun z => kf z H locs ls hP hD hS hl)
theorem g_if_gt (X : gK p s m args meth c A D cy ad cc nL own) {x : Int32} {off : Int} (tgt : Nat) (d : decode cc pc = .ok (.ifCond .gt off, 3)) (ht : (pc : Int) + off = (tgt : Int)) (kt : 0 < x → GW p l e R s m args below meth c A D nL cells slots Q tgt lv st gs) (kf : ¬ 0 < x → GW p l e R s m args below meth c A D nL cells slots Q (pc + 3) lv st gs) : GW p l e R s m args below meth c A D nL cells slots Q pc lv (.int x :: st) gs := fun H locs ls hP hD hS hl => lv_if_gt X.1 X.2.1 d ht (fun z => kt z H locs ls hP hD hS hl) (fun z => kf z H locs ls hP hD hS hl)
theorem g_if_le (X : gK p s m args meth c A D cy ad cc nL own) {x : Int32} {off : Int} (tgt : Nat) (d : decode cc pc = .ok (.ifCond .le off, 3)) (ht : (pc : Int) + off = (tgt : Int)) (kt : x ≤ 0 → GW p l e R s m args below meth c A D nL cells slots Q tgt lv st gs) (kf : ¬ x ≤ 0 → GW p l e R s m args below meth c A D nL cells slots Q (pc + 3) lv st gs) : GW p l e R s m args below meth c A D nL cells slots Q pc lv (.int x :: st) gs := fun H locs ls hP hD hS hl => lv_if_le X.1 X.2.1 d ht (fun z => kt z H locs ls hP hD hS hl) (fun z => kf z H locs ls hP hD hS hl)
theorem g_icmp_eq (X : gK p s m args meth c A D cy ad cc nL own) {x y : Int32} {off : Int} (tgt : Nat) (d : decode cc pc = .ok (.if_icmp .eq off, 3)) (ht : (pc : Int) + off = (tgt : Int)) (kt : x = y → GW p l e R s m args below meth c A D nL cells slots Q tgt lv st gs) (kf : ¬ x = y → GW p l e R s m args below meth c A D nL cells slots Q (pc + 3) lv st gs) : GW p l e R s m args below meth c A D nL cells slots Q pc lv (.int y :: .int x :: st) gs := fun H locs ls hP hD hS hl => lv_icmp_eq X.1 X.2.1 d ht (fun z => kt z H locs ls hP hD hS hl) (fun z => kf z H locs ls hP hD hS hl)
theorem g_icmp_ne (X : gK p s m args meth c A D cy ad cc nL own) {x y : Int32} {off : Int} (tgt : Nat) (d : decode cc pc = .ok (.if_icmp .ne off, 3)) (ht : (pc : Int) + off = (tgt : Int)) (kt : ¬ x = y → GW p l e R s m args below meth c A D nL cells slots Q tgt lv st gs) (kf : x = y → GW p l e R s m args below meth c A D nL cells slots Q (pc + 3) lv st gs) : GW p l e R s m args below meth c A D nL cells slots Q pc lv (.int y :: .int x :: st) gs := fun H locs ls hP hD hS hl => lv_icmp_ne X.1 X.2.1 d ht (fun z => kt z H locs ls hP hD hS hl) (fun z => kf z H locs ls hP hD hS hl)
theorem g_icmp_lt (X : gK p s m args meth c A D cy ad cc nL own) {x y : Int32} {off : Int} (tgt : Nat) (d : decode cc pc = .ok (.if_icmp .lt off, 3)) (ht : (pc : Int) + off = (tgt : Int)) (kt : x < y → GW p l e R s m args below meth c A D nL cells slots Q tgt lv st gs) (kf : ¬ x < y → GW p l e R s m args below meth c A D nL cells slots Q (pc + 3) lv st gs) : GW p l e R s m args below meth c A D nL cells slots Q pc lv (.int y :: .int x :: st) gs := fun H locs ls hP hD hS hl => lv_icmp_lt X.1 X.2.1 d ht (fun z => kt z H locs ls hP hD hS hl) (fun z => kf z H locs ls hP hD hS hl)
theorem g_icmp_ge (X : gK p s m args meth c A D cy ad cc nL own) {x y : Int32} {off : Int} (tgt : Nat) (d : decode cc pc = .ok (.if_icmp .ge off, 3)) (ht : (pc : Int) + off = (tgt : Int)) (kt : y ≤ x → GW p l e R s m args below meth c A D nL cells slots Q tgt lv st gs) (kf : ¬ y ≤ x → GW p l e R s m args below meth c A D nL cells slots Q (pc + 3) lv st gs) : GW p l e R s m args below meth c A D nL cells slots Q pc lv (.int y :: .int x :: st) gs := fun H locs ls hP hD hS hl => lv_icmp_ge X.1 X.2.1 d ht (fun z => kt z H locs ls hP hD hS hl) (fun z => kf z H locs ls hP hD hS hl)
theorem g_icmp_gt (X : gK p s m args meth c A D cy ad cc nL own) {x y : Int32} {off : Int} (tgt : Nat) (d : decode cc pc = .ok (.if_icmp .gt off, 3)) (ht : (pc : Int) + off = (tgt : Int)) (kt : y < x → GW p l e R s m args below meth c A D nL cells slots Q tgt lv st gs) (kf : ¬ y < x → GW p l e R s m args below meth c A D nL cells slots Q (pc + 3) lv st gs) : GW p l e R s m args below meth c A D nL cells slots Q pc lv (.int y :: .int x :: st) gs := fun H locs ls hP hD hS hl => lv_icmp_gt X.1 X.2.1 d ht (fun z => kt z H locs ls hP hD hS hl) (fun z => kf z H locs ls hP hD hS hl)
theorem g_icmp_le (X : gK p s m args meth c A D cy ad cc nL own) {x y : Int32} {off : Int} (tgt : Nat) (d : decode cc pc = .ok (.if_icmp .le off, 3)) (ht : (pc : Int) + off = (tgt : Int)) (kt : x ≤ y → GW p l e R s m args below meth c A D nL cells slots Q tgt lv st gs) (kf : ¬ x ≤ y → GW p l e R s m args below meth c A D nL cells slots Q (pc + 3) lv st gs) : GW p l e R s m args below meth c A D nL cells slots Q pc lv (.int y :: .int x :: st) gs := fun H locs ls hP hD hS hl => lv_icmp_le X.1 X.2.1 d ht (fun z => kt z H locs ls hP hD hS hl) (fun z => kf z H locs ls hP hD hS hl)
theorem g_ifnull (X : gK p s m args meth c A D cy ad cc nL own) {x : Nat} {off : Int} (d : decode cc pc = .ok (.ifnull off, 3)) (K : GW p l e R s m args below meth c A D nL cells slots Q (pc + 3) lv st gs) : GW p l e R s m args below meth c A D nL cells slots Q pc lv (.ref x :: st) gs := fun H locs ls hP hD hS hl => lv_ifnull X.1 X.2.1 d (K H locs ls hP hD hS hl)
theorem g_ifnonnull (X : gK p s m args meth c A D cy ad cc nL own) {x : Nat} {off : Int} (tgt : Nat) (d : decode cc pc = .ok (.ifnonnull off, 3)) (ht : (pc : Int) + off = (tgt : Int)) (K : GW p l e R s m args below meth c A D nL cells slots Q tgt lv st gs) : GW p l e R s m args below meth c A D nL cells slots Q pc lv (.ref x :: st) gs := fun H locs ls hP hD hS hl => lv_ifnonnull X.1 X.2.1 d ht (K H locs ls hP hD hS hl)
theorem g_istore_n (X : gK p s m args meth c A D cy ad cc nL own) {k : Fin 4} {x : Int32} {lv' : List (Nat × Value)} {i : Nat} (d : decode cc pc = .ok (.istore_n k, 1)) (ks : List Nat) (hi : (k : Nat) = i) (hn : i < nL) (hl' : lv_pick ((i, Value.int x) :: lv.filter (fun q => !(q.1 == i) && !(q.1 + 1 == i && q.2.category == 2))) ks = lv') (K : GW p l e R s m args below meth c A D nL cells slots Q (pc + 1) lv' st gs) : GW p l e R s m args below meth c A D nL cells slots Q pc lv (.int x :: st) gs := fun H locs ls hP hD hS hl => lv_istore_n X.1 X.2.1 d hi hl hn rfl (fun ls' h' => K H locs ls' hP hD hS (lv_sub h' ks hl'))
theorem g_astore_n (X : gK p s m args meth c A D cy ad cc nL own) {k : Fin 4} {x : Nat} {lv' : List (Nat × Value)} {i : Nat} (d : decode cc pc = .ok (.astore_n k, 1)) (ks : List Nat) (hi : (k : Nat) = i) (hn : i < nL) (hl' : lv_pick ((i, Value.ref x) :: lv.filter (fun q => !(q.1 == i) && !(q.1 + 1 == i && q.2.category == 2))) ks = lv') (K : GW p l e R s m args below meth c A D nL cells slots Q (pc + 1) lv' st gs) : GW p l e R s m args below meth c A D nL cells slots Q pc lv (.ref x :: st) gs := fun H locs ls hP hD hS hl => lv_astore_n X.1 X.2.1 d hi hl hn rfl (fun ls' h' => K H locs ls' hP hD hS (lv_sub h' ks hl'))
theorem g_istore (X : gK p s m args meth c A D cy ad cc nL own) {x : Int32} {lv' : List (Nat × Value)} {i : Nat} (d : decode cc pc = .ok (.istore i, 2)) (ks : List Nat) (hn : i < nL) (hl' : lv_pick ((i, Value.int x) :: lv.filter (fun q => !(q.1 == i) && !(q.1 + 1 == i && q.2.category == 2))) ks = lv') (K : GW p l e R s m args below meth c A D nL cells slots Q (pc + 2) lv' st gs) : GW p l e R s m args below meth c A D nL cells slots Q pc lv (.int x :: st) gs := fun H locs ls hP hD hS hl => lv_istore X.1 X.2.1 d hl hn rfl (fun ls' h' => K H locs ls' hP hD hS (lv_sub h' ks hl'))
theorem g_astore (X : gK p s m args meth c A D cy ad cc nL own) {x : Nat} {lv' : List (Nat × Value)} {i : Nat} (d : decode cc pc = .ok (.astore i, 2)) (ks : List Nat) (hn : i < nL) (hl' : lv_pick ((i, Value.ref x) :: lv.filter (fun q => !(q.1 == i) && !(q.1 + 1 == i && q.2.category == 2))) ks = lv') (K : GW p l e R s m args below meth c A D nL cells slots Q (pc + 2) lv' st gs) : GW p l e R s m args below meth c A D nL cells slots Q pc lv (.ref x :: st) gs := fun H locs ls hP hD hS hl => lv_astore X.1 X.2.1 d hl hn rfl (fun ls' h' => K H locs ls' hP hD hS (lv_sub h' ks hl'))
theorem g_lstore_n (X : gK p s m args meth c A D cy ad cc nL own) {k : Fin 4} {x : Int64} {lv' : List (Nat × Value)} {i : Nat} (d : decode cc pc = .ok (.lstore_n k, 1)) (ks : List Nat) (hi : (k : Nat) = i) (hn : i + 1 < nL) (hl' : lv_pick ((i, Value.long x) :: lv.filter (fun q => !(q.1 == i) && (!(q.1 == i + 1) && !(q.1 + 1 == i && q.2.category == 2)))) ks = lv') (K : GW p l e R s m args below meth c A D nL cells slots Q (pc + 1) lv' st gs) : GW p l e R s m args below meth c A D nL cells slots Q pc lv (.long x :: st) gs := fun H locs ls hP hD hS hl => lv_lstore_n X.1 X.2.1 d hi hl hn rfl (fun ls' h' => K H locs ls' hP hD hS (lv_sub h' ks hl'))
theorem g_lstore (X : gK p s m args meth c A D cy ad cc nL own) {x : Int64} {lv' : List (Nat × Value)} {i : Nat} (d : decode cc pc = .ok (.lstore i, 2)) (ks : List Nat) (hn : i + 1 < nL) (hl' : lv_pick ((i, Value.long x) :: lv.filter (fun q => !(q.1 == i) && (!(q.1 == i + 1) && !(q.1 + 1 == i && q.2.category == 2)))) ks = lv') (K : GW p l e R s m args below meth c A D nL cells slots Q (pc + 2) lv' st gs) : GW p l e R s m args below meth c A D nL cells slots Q pc lv (.long x :: st) gs := fun H locs ls hP hD hS hl => lv_lstore X.1 X.2.1 d hl hn rfl (fun ls' h' => K H locs ls' hP hD hS (lv_sub h' ks hl'))
theorem g_iinc (X : gK p s m args meth c A D cy ad cc nL own) {x v : Int32} {lv' : List (Nat × Value)} {i : Nat} {n : Int} (d : decode cc pc = .ok (.iinc i n, 3)) (j : Nat) (hj : lv[j]? = some (i, .int x)) (hv : Int32.ofInt n = v) (ks : List Nat) (hn : i < nL) (hl' : lv_pick ((i, Value.int (x + v)) :: lv.filter (fun q => !(q.1 == i) && !(q.1 + 1 == i && q.2.category == 2))) ks = lv') (K : GW p l e R s m args below meth c A D nL cells slots Q (pc + 3) lv' st gs) : GW p l e R s m args below meth c A D nL cells slots Q pc lv st gs := fun H locs ls hP hD hS hl => lv_iinc X.1 X.2.1 d hl hj (by rw [hv]) hn rfl (fun ls' h' => K H locs ls' hP hD hS (lv_sub h' ks hl'))
theorem g_sub (ks : List Nat) {lv' : List (Nat × Value)} (hl' : lv_pick lv ks = lv') (K : GW p l e R s m args below meth c A D nL cells slots Q pc lv' st gs) : GW p l e R s m args below meth c A D nL cells slots Q pc lv st gs := fun H locs ls hP hD hS hl => K H locs ls hP hD hS (lv_sub hl ks hl')
theorem g_regroup {gs' : List va_W} (h : gs.flatten = gs'.flatten) (K : GW p l e R s m args below meth c A D nL cells slots Q pc lv st gs') : GW p l e R s m args below meth c A D nL cells slots Q pc lv st gs := fun H locs ls hP hD hS hl => K H locs ls (h ▸ hP) (h ▸ hD) hS hl
theorem g_perm {gs' : List va_W} (h : gs.Perm gs') (K : GW p l e R s m args below meth c A D nL cells slots Q pc lv st gs') : GW p l e R s m args below meth c A D nL cells slots Q pc lv st gs := fun H locs ls hP hD hS hl => K H locs ls (gp_P (gp_fl h) hP) (gp_D (gp_fl h) hD) hS hl
theorem g_tableIn (X : gK p s m args meth c A D cy ad cc nL own) {dflt lo hi : Int} {offs : Array Int} {len : Nat} {x : Int32} {off : Int} (tgt : Nat) (d : decode cc pc = .ok (.tableswitch dflt lo hi offs, len)) (h1 : ¬ x.toInt < lo) (h2 : ¬ hi < x.toInt) (ho : offs[(x.toInt - lo).toNat]? = some off) (ht : (pc : Int) + off = (tgt : Int)) (K : GW p l e R s m args below meth c A D nL cells slots Q tgt lv st gs) : GW p l e R s m args below meth c A D nL cells slots Q pc lv (.int x :: st) gs := fun H locs ls hP hD hS hl => lv_tableIn X.1 X.2.1 d h1 h2 ho ht (K H locs ls hP hD hS hl)
theorem g_tableOut (X : gK p s m args meth c A D cy ad cc nL own) {dflt lo hi : Int} {offs : Array Int} {len : Nat} {x : Int32} (tgt : Nat) (d : decode cc pc = .ok (.tableswitch dflt lo hi offs, len)) (h : x.toInt < lo ∨ hi < x.toInt) (ht : (pc : Int) + dflt = (tgt : Int)) (K : GW p l e R s m args below meth c A D nL cells slots Q tgt lv st gs) : GW p l e R s m args below meth c A D nL cells slots Q pc lv (.int x :: st) gs := fun H locs ls hP hD hS hl => lv_tableOut X.1 X.2.1 d h ht (K H locs ls hP hD hS hl)
theorem g_lookup (X : gK p s m args meth c A D cy ad cc nL own) {dflt : Int} {ps : Array (Int × Int)} {len : Nat} {x : Int32} {off : Int} (tgt : Nat) (d : decode cc pc = .ok (.lookupswitch dflt ps, len)) (hp : (ps.toList.zip (ps.toList.drop 1)).all (fun (a, next) => a.1 < next.1) = true) (ho : Op.lookupswitch.offset ps.toList dflt x.toInt = off) (ht : (pc : Int) + off = (tgt : Int)) (K : GW p l e R s m args below meth c A D nL cells slots Q tgt lv st gs) : GW p l e R s m args below meth c A D nL cells slots Q pc lv (.int x :: st) gs := fun H locs ls hP hD hS hl => lv_lookup X.1 X.2.1 d hp ho ht (K H locs ls hP hD hS hl)
theorem sw_lk2 {x : Int32} {a b u v w : Int} (h1 : ¬ x.toInt = a) (h2 : ¬ x.toInt = b) : Op.lookupswitch.offset [(a, u), (b, v)] w x.toInt = w := by
  rw [Op.lookupswitch.offset_cons, if_neg (fun h => h1 h.symm), Op.lookupswitch.offset_cons, if_neg (fun h => h2 h.symm), Op.lookupswitch.offset_nil]
theorem sw_out {x : Int32} {lo hi : Int} (h : ∀ k : Int, lo ≤ k → k ≤ hi → x.toInt ≠ k) : x.toInt < lo ∨ hi < x.toInt := by
  rcases Int.lt_or_le x.toInt lo with a | a
  · exact Or.inl a
  · rcases Int.lt_or_le hi x.toInt with b | b
    · exact Or.inr b
    · exact absurd rfl (h _ a b)
theorem sw_ne {x y : Int32} {k : Int} (hk : y.toInt = k) (h : ¬ x = y) : ¬ x.toInt = k := fun e => h (Int32.toInt_inj.mp (e.trans hk.symm))
theorem g_get (X : gK p s m args meth c A D cy ad cc nL own) {C : String} {T : u_T} {N ci index : Nat} {b : Nat} {gl : va_W} {fs : List Value} {v : Value} (d : decode cc pc = .ok (.getfield index, 3)) (hC : vwCl[ci]? = some (C, T, N) ∧ ∀ w ∈ u_ws C T N, w ∈ wG) (g q k : Nat) (h1 : gs[g]? = some gl) (h2 : gl[q]? = some (b, .inr (ci, fs))) (hk : k < N) (hlink : Cond.fieldLink own index (T k).1 (T k).2.1 (T k).2.2.1 ∈ wG) (hv : fs[k]? = some v) (K : GW p l e R s m args below meth c A D nL cells slots Q (pc + 3) lv (v :: st) gs) : GW p l e R s m args below meth c A D nL cells slots Q pc lv (.ref b :: st) gs := fun H locs ls hP hD hS hl => by
  obtain ⟨i, hi, -⟩ := fl_get gs g q h1 h2
  exact va_get X.1 X.2.1 X.2.2.2.2.1 hC.2 X.2.2.2.1 X.2.2.2.2.2.1 hP i hi hC.1 k hk (X.2.2.2.2.1 _ hlink) (fun _ h => h) hv d (K H locs ls hP hD hS hl)
theorem g_put (X : gK p s m args meth c A D cy ad cc nL own) {C : String} {T : u_T} {N ci index : Nat} {b : Nat} {gl : va_W} {fs : List Value} {v : Value} {gs' : List va_W} {ty0 : Nat → FieldType} (d : decode cc pc = .ok (.putfield index, 3)) (hC : vwCl[ci]? = some (C, T, N) ∧ ∀ w ∈ u_ws C T N, w ∈ wG) (hT : (∀ k, k < N → parseFieldDescriptor (T k).2.2.1 = some (ty0 k)) ∧ (∀ a, a < N → ∀ b, b < N → a ≠ b → (T a).2.1 ≠ (T b).2.1)) (g q k : Nat) (h1 : gs[g]? = some gl) (h2 : gl[q]? = some (b, .inr (ci, fs))) (hk : k < N) (hlink : Cond.fieldLink own index (T k).1 (T k).2.1 (T k).2.2.1 ∈ wG) (hfin : (T k).2.2.2 = false) (hn : narrow (ty0 k) v = v) (hfit : fits (ty0 k) v = true) (hl9 : k < fs.length) (hg : gs.set g (gl.set q (b, .inr (ci, fs.set k v))) = gs') (K : GW p l e R s m args below meth c A D nL cells slots Q (pc + 3) lv st gs') : GW p l e R s m args below meth c A D nL cells slots Q pc lv (v :: .ref b :: st) gs := fun H locs ls hP hD hS hl => by
  obtain ⟨i, hi, hs⟩ := fl_get gs g q h1 h2
  refine va_put X.1 X.2.1 X.2.2.2.2.1 hC.2 ty0 hT.1 hT.2 X.2.2.2.1 X.2.2.2.2.2.1 hP hD hS i hi hC.1 k hk (X.2.2.2.2.1 _ hlink) (fun _ h => h) hfin (hT.1 k hk) hn hfit hl9 d (fun H1 locs1 hP1 hD1 hS1 => ?_)
  rw [← hs] at hP1 hD1
  exact K H1 locs1 ls (hg ▸ hP1) (hg ▸ hD1) hS1 hl
theorem g_putF (X : gK p s m args meth c A D cy ad cc nL own) {C : String} {T : u_T} {N ci index : Nat} {b : Nat} {gl : va_W} {fs : List Value} {v : Value} {gs' : List va_W} {ty0 : Nat → FieldType} (hin : meth.name = "<init>") (d : decode cc pc = .ok (.putfield index, 3)) (hC : vwCl[ci]? = some (C, T, N) ∧ ∀ w ∈ u_ws C T N, w ∈ wG) (hT : (∀ k, k < N → parseFieldDescriptor (T k).2.2.1 = some (ty0 k)) ∧ (∀ a, a < N → ∀ b, b < N → a ≠ b → (T a).2.1 ≠ (T b).2.1)) (g q k : Nat) (h1 : gs[g]? = some gl) (h2 : gl[q]? = some (b, .inr (ci, fs))) (hk : k < N) (hlink : Cond.fieldLink own index (T k).1 (T k).2.1 (T k).2.2.1 ∈ wG) (hfin : (T k).2.2.2 = true) (hdecl : (T k).1 = own) (hn : narrow (ty0 k) v = v) (hfit : fits (ty0 k) v = true) (hl9 : k < fs.length) (hg : gs.set g (gl.set q (b, .inr (ci, fs.set k v))) = gs') (K : GW p l e R s m args below meth c A D nL cells slots Q (pc + 3) lv st gs') : GW p l e R s m args below meth c A D nL cells slots Q pc lv (v :: .ref b :: st) gs := fun H locs ls hP hD hS hl => by
  obtain ⟨i, hi, hs⟩ := fl_get gs g q h1 h2
  refine va_putF X.1 X.2.1 X.2.2.2.2.1 hC.2 ty0 hT.1 hT.2 X.2.2.2.1 X.2.2.2.2.2.1 hP hD hS i hi hC.1 k hk (X.2.2.2.2.1 _ hlink) (fun _ h => h) hfin hin hdecl (hT.1 k hk) hn hfit hl9 d (fun H1 locs1 hP1 hD1 hS1 => ?_)
  rw [← hs] at hP1 hD1
  exact K H1 locs1 ls (hg ▸ hP1) (hg ▸ hD1) hS1 hl
theorem g_iaload (X : gK p s m args meth c A D cy ad cc nL own) {b n : Nat} {gl : va_W} {f : Nat → Int32} {i : Int32} (d : decode cc pc = .ok (.iaload, 1)) (g q : Nat) (h1 : gs[g]? = some gl) (h2 : gl[q]? = some (b, .inl (cy 0, n, .inl f))) (hin : ¬ (i < 0 ∨ n ≤ i.toNatClampNeg)) (K : GW p l e R s m args below meth c A D nL cells slots Q (pc + 1) lv (.int (f i.toNatClampNeg) :: st) gs) : GW p l e R s m args below meth c A D nL cells slots Q pc lv (.int i :: .ref b :: st) gs := fun H locs ls hP hD hS hl => by
  obtain ⟨i9, hi, -⟩ := fl_get gs g q h1 h2
  exact va_iald X.1 X.2.1 X.2.2.2.2.2.1 hP i9 0 hi rfl hin d (K H locs ls hP hD hS hl)
theorem g_caload (X : gK p s m args meth c A D cy ad cc nL own) {b n : Nat} {gl : va_W} {f : Nat → Int32} {i : Int32} (d : decode cc pc = .ok (.caload, 1)) (g q : Nat) (h1 : gs[g]? = some gl) (h2 : gl[q]? = some (b, .inl (cy 1, n, .inl f))) (hin : ¬ (i < 0 ∨ n ≤ i.toNatClampNeg)) (K : GW p l e R s m args below meth c A D nL cells slots Q (pc + 1) lv (.int (f i.toNatClampNeg) :: st) gs) : GW p l e R s m args below meth c A D nL cells slots Q pc lv (.int i :: .ref b :: st) gs := fun H locs ls hP hD hS hl => by
  obtain ⟨i9, hi, -⟩ := fl_get gs g q h1 h2
  exact va_cald X.1 X.2.1 X.2.2.2.2.2.1 hP i9 1 hi rfl hin d (K H locs ls hP hD hS hl)
theorem g_baload (X : gK p s m args meth c A D cy ad cc nL own) {b n : Nat} {gl : va_W} {f : Nat → Int32} {i : Int32} (d : decode cc pc = .ok (.baload, 1)) (g q : Nat) (h1 : gs[g]? = some gl) (h2 : gl[q]? = some (b, .inl (cy 2, n, .inl f))) (hin : ¬ (i < 0 ∨ n ≤ i.toNatClampNeg)) (K : GW p l e R s m args below meth c A D nL cells slots Q (pc + 1) lv (.int (f i.toNatClampNeg) :: st) gs) : GW p l e R s m args below meth c A D nL cells slots Q pc lv (.int i :: .ref b :: st) gs := fun H locs ls hP hD hS hl => by
  obtain ⟨i9, hi, -⟩ := fl_get gs g q h1 h2
  exact va_zald X.1 X.2.1 X.2.2.2.2.2.1 hP i9 2 hi rfl hin d (K H locs ls hP hD hS hl)
theorem g_laload (X : gK p s m args meth c A D cy ad cc nL own) {b n : Nat} {gl : va_W} {f : Nat → Int64} {i : Int32} (d : decode cc pc = .ok (.laload, 1)) (g q : Nat) (h1 : gs[g]? = some gl) (h2 : gl[q]? = some (b, .inl (cy 4, n, .inr (.inl f)))) (hin : ¬ (i < 0 ∨ n ≤ i.toNatClampNeg)) (K : GW p l e R s m args below meth c A D nL cells slots Q (pc + 1) lv (.long (f i.toNatClampNeg) :: st) gs) : GW p l e R s m args below meth c A D nL cells slots Q pc lv (.int i :: .ref b :: st) gs := fun H locs ls hP hD hS hl => by
  obtain ⟨i9, hi, -⟩ := fl_get gs g q h1 h2
  exact va_lald X.1 X.2.1 X.2.2.2.2.2.1 hP i9 4 hi rfl hin d (K H locs ls hP hD hS hl)
theorem g_iastore (X : gK p s m args meth c A D cy ad cc nL own) {b n : Nat} {gl : va_W} {f : Nat → Int32} {i : Int32} {x : Int32} {gs' : List va_W} (d : decode cc pc = .ok (.iastore, 1)) (g q : Nat) (h1 : gs[g]? = some gl) (h2 : gl[q]? = some (b, .inl (cy 0, n, .inl f))) (hin : ¬ (i < 0 ∨ n ≤ i.toNatClampNeg)) (hg : gs.set g (gl.set q (b, .inl (cy 0, n, .inl (upd f i.toNatClampNeg x)))) = gs') (K : GW p l e R s m args below meth c A D nL cells slots Q (pc + 1) lv st gs') : GW p l e R s m args below meth c A D nL cells slots Q pc lv (.int x :: .int i :: .ref b :: st) gs := fun H locs ls hP hD hS hl => by
  obtain ⟨i9, hi, hs⟩ := fl_get gs g q h1 h2
  refine va_iast X.1 X.2.1 X.2.2.2.2.2.1 hP hD hS i9 0 hi rfl hin d (fun H1 locs1 hP1 hD1 hS1 => ?_)
  rw [← hs] at hP1 hD1
  exact K H1 locs1 ls (hg ▸ hP1) (hg ▸ hD1) hS1 hl
theorem g_castore (X : gK p s m args meth c A D cy ad cc nL own) {b n : Nat} {gl : va_W} {f : Nat → Int32} {i : Int32} {x : Int32} {gs' : List va_W} (d : decode cc pc = .ok (.castore, 1)) (g q : Nat) (h1 : gs[g]? = some gl) (h2 : gl[q]? = some (b, .inl (cy 1, n, .inl f))) (hin : ¬ (i < 0 ∨ n ≤ i.toNatClampNeg)) (hg : gs.set g (gl.set q (b, .inl (cy 1, n, .inl (upd f i.toNatClampNeg (vp_nar .char x))))) = gs') (K : GW p l e R s m args below meth c A D nL cells slots Q (pc + 1) lv st gs') : GW p l e R s m args below meth c A D nL cells slots Q pc lv (.int x :: .int i :: .ref b :: st) gs := fun H locs ls hP hD hS hl => by
  obtain ⟨i9, hi, hs⟩ := fl_get gs g q h1 h2
  refine va_cast X.1 X.2.1 X.2.2.2.2.2.1 hP hD hS i9 1 hi rfl hin d (fun H1 locs1 hP1 hD1 hS1 => ?_)
  rw [← hs] at hP1 hD1
  exact K H1 locs1 ls (hg ▸ hP1) (hg ▸ hD1) hS1 hl
theorem g_bastore (X : gK p s m args meth c A D cy ad cc nL own) {b n : Nat} {gl : va_W} {f : Nat → Int32} {i : Int32} {x : Int32} {gs' : List va_W} (d : decode cc pc = .ok (.bastore, 1)) (g q : Nat) (h1 : gs[g]? = some gl) (h2 : gl[q]? = some (b, .inl (cy 2, n, .inl f))) (hin : ¬ (i < 0 ∨ n ≤ i.toNatClampNeg)) (hg : gs.set g (gl.set q (b, .inl (cy 2, n, .inl (upd f i.toNatClampNeg (vp_nar .boolean x))))) = gs') (K : GW p l e R s m args below meth c A D nL cells slots Q (pc + 1) lv st gs') : GW p l e R s m args below meth c A D nL cells slots Q pc lv (.int x :: .int i :: .ref b :: st) gs := fun H locs ls hP hD hS hl => by
  obtain ⟨i9, hi, hs⟩ := fl_get gs g q h1 h2
  refine va_zast X.1 X.2.1 X.2.2.2.2.2.1 hP hD hS i9 2 hi rfl hin d (fun H1 locs1 hP1 hD1 hS1 => ?_)
  rw [← hs] at hP1 hD1
  exact K H1 locs1 ls (hg ▸ hP1) (hg ▸ hD1) hS1 hl
theorem g_lastore (X : gK p s m args meth c A D cy ad cc nL own) {b n : Nat} {gl : va_W} {f : Nat → Int64} {i : Int32} {x : Int64} {gs' : List va_W} (d : decode cc pc = .ok (.lastore, 1)) (g q : Nat) (h1 : gs[g]? = some gl) (h2 : gl[q]? = some (b, .inl (cy 4, n, .inr (.inl f)))) (hin : ¬ (i < 0 ∨ n ≤ i.toNatClampNeg)) (hg : gs.set g (gl.set q (b, .inl (cy 4, n, .inr (.inl (vp_updL f i.toNatClampNeg x))))) = gs') (K : GW p l e R s m args below meth c A D nL cells slots Q (pc + 1) lv st gs') : GW p l e R s m args below meth c A D nL cells slots Q pc lv (.long x :: .int i :: .ref b :: st) gs := fun H locs ls hP hD hS hl => by
  obtain ⟨i9, hi, hs⟩ := fl_get gs g q h1 h2
  refine va_last X.1 X.2.1 X.2.2.2.2.2.1 hP hD hS i9 4 hi rfl hin d (fun H1 locs1 hP1 hD1 hS1 => ?_)
  rw [← hs] at hP1 hD1
  exact K H1 locs1 ls (hg ▸ hP1) (hg ▸ hD1) hS1 hl
theorem g_aaload (X : gK p s m args meth c A D cy ad cc nL own) {b n : Nat} {gl : va_W} {f : Nat → Option Nat} {i : Int32} (d : decode cc pc = .ok (.aaload, 1)) (g q : Nat) (h1 : gs[g]? = some gl) (h2 : gl[q]? = some (b, .inl (cy 3, n, .inr (.inr (.inr (.inr f)))))) (hin : ¬ (i < 0 ∨ n ≤ i.toNatClampNeg)) (K : GW p l e R s m args below meth c A D nL cells slots Q (pc + 1) lv (va_rf (f i.toNatClampNeg) :: st) gs) : GW p l e R s m args below meth c A D nL cells slots Q pc lv (.int i :: .ref b :: st) gs := fun H locs ls hP hD hS hl => by
  obtain ⟨i9, hi, -⟩ := fl_get gs g q h1 h2
  exact va_aldq X.1 X.2.1 X.2.2.2.2.2.1 hP i9 3 hi rfl hin d (K H locs ls hP hD hS hl)
theorem g_alen0 (X : gK p s m args meth c A D cy ad cc nL own) {b : Nat} {gl : va_W} {x : vp_A} {v : Int32} (d : decode cc pc = .ok (.arraylength, 1)) (g q : Nat) (h1 : gs[g]? = some gl) (h2 : gl[q]? = some (b, .inl (cy 0, x))) (hv : Int32.ofNat x.1 = v) (K : GW p l e R s m args below meth c A D nL cells slots Q (pc + 1) lv (.int v :: st) gs) : GW p l e R s m args below meth c A D nL cells slots Q pc lv (.ref b :: st) gs := fun H locs ls hP hD hS hl => by
  obtain ⟨i9, hi, -⟩ := fl_get gs g q h1 h2
  exact va_alen X.1 X.2.1 X.2.2.2.2.2.1 hP i9 0 hi rfl hv d (K H locs ls hP hD hS hl)
theorem g_alen1 (X : gK p s m args meth c A D cy ad cc nL own) {b : Nat} {gl : va_W} {x : vp_A} {v : Int32} (d : decode cc pc = .ok (.arraylength, 1)) (g q : Nat) (h1 : gs[g]? = some gl) (h2 : gl[q]? = some (b, .inl (cy 1, x))) (hv : Int32.ofNat x.1 = v) (K : GW p l e R s m args below meth c A D nL cells slots Q (pc + 1) lv (.int v :: st) gs) : GW p l e R s m args below meth c A D nL cells slots Q pc lv (.ref b :: st) gs := fun H locs ls hP hD hS hl => by
  obtain ⟨i9, hi, -⟩ := fl_get gs g q h1 h2
  exact va_alen X.1 X.2.1 X.2.2.2.2.2.1 hP i9 1 hi rfl hv d (K H locs ls hP hD hS hl)
theorem g_alen2 (X : gK p s m args meth c A D cy ad cc nL own) {b : Nat} {gl : va_W} {x : vp_A} {v : Int32} (d : decode cc pc = .ok (.arraylength, 1)) (g q : Nat) (h1 : gs[g]? = some gl) (h2 : gl[q]? = some (b, .inl (cy 2, x))) (hv : Int32.ofNat x.1 = v) (K : GW p l e R s m args below meth c A D nL cells slots Q (pc + 1) lv (.int v :: st) gs) : GW p l e R s m args below meth c A D nL cells slots Q pc lv (.ref b :: st) gs := fun H locs ls hP hD hS hl => by
  obtain ⟨i9, hi, -⟩ := fl_get gs g q h1 h2
  exact va_alen X.1 X.2.1 X.2.2.2.2.2.1 hP i9 2 hi rfl hv d (K H locs ls hP hD hS hl)
theorem g_alen3 (X : gK p s m args meth c A D cy ad cc nL own) {b : Nat} {gl : va_W} {x : vp_A} {v : Int32} (d : decode cc pc = .ok (.arraylength, 1)) (g q : Nat) (h1 : gs[g]? = some gl) (h2 : gl[q]? = some (b, .inl (cy 3, x))) (hv : Int32.ofNat x.1 = v) (K : GW p l e R s m args below meth c A D nL cells slots Q (pc + 1) lv (.int v :: st) gs) : GW p l e R s m args below meth c A D nL cells slots Q pc lv (.ref b :: st) gs := fun H locs ls hP hD hS hl => by
  obtain ⟨i9, hi, -⟩ := fl_get gs g q h1 h2
  exact va_alen X.1 X.2.1 X.2.2.2.2.2.1 hP i9 3 hi rfl hv d (K H locs ls hP hD hS hl)
theorem g_alen4 (X : gK p s m args meth c A D cy ad cc nL own) {b : Nat} {gl : va_W} {x : vp_A} {v : Int32} (d : decode cc pc = .ok (.arraylength, 1)) (g q : Nat) (h1 : gs[g]? = some gl) (h2 : gl[q]? = some (b, .inl (cy 4, x))) (hv : Int32.ofNat x.1 = v) (K : GW p l e R s m args below meth c A D nL cells slots Q (pc + 1) lv (.int v :: st) gs) : GW p l e R s m args below meth c A D nL cells slots Q pc lv (.ref b :: st) gs := fun H locs ls hP hD hS hl => by
  obtain ⟨i9, hi, -⟩ := fl_get gs g q h1 h2
  exact va_alen X.1 X.2.1 X.2.2.2.2.2.1 hP i9 4 hi rfl hv d (K H locs ls hP hD hS hl)
theorem g_mmax (X : gK p s m args meth c A D cy ad cc nL own) {index : Nat} {x y : Int32} (d : decode cc pc = .ok (.invokestatic index, 3)) (hlink : Cond.methodLink own index Lib.Math.max.name ∈ wG) (hw : Cond.static Lib.Math.max.name ∈ wG ∧ Cond.initialized "java/lang/Math" ∈ wG ∧ Cond.code Lib.Math.max.name Lib.Math.max.code 2 (some .int) ∈ wG) (hR : 1 ≤ R.frames ∧ (st.map fun v => v.category).sum + 13 ≤ R.locals ∧ cells ≤ R.cells ∧ slots ≤ R.slots) (K : GW p l e R s m args below meth c A D nL cells slots Q (pc + 3) lv (.int (if x < y then y else x) :: st) gs) : GW p l e R s m args below meth c A D nL cells slots Q pc lv (.int y :: .int x :: st) gs := fun H locs ls hP hD hS hl =>
  va_mmax X.1 X.2.1 (X.2.2.1.trans hl.1.symm) X.2.2.2.1 (X.2.2.2.2.1 _ hlink) (X.2.2.2.2.1 _ hw.1) (X.2.2.2.2.1 _ hw.2.1) (X.2.2.2.2.1 _ hw.2.2) hR.1 hR.2.1 hR.2.2.1 hR.2.2.2 d (K H locs ls hP hD hS hl)
theorem g_mmin (X : gK p s m args meth c A D cy ad cc nL own) {index : Nat} {x y : Int32} (d : decode cc pc = .ok (.invokestatic index, 3)) (hlink : Cond.methodLink own index Lib.Math.min.name ∈ wG) (hw : Cond.static Lib.Math.min.name ∈ wG ∧ Cond.initialized "java/lang/Math" ∈ wG ∧ Cond.code Lib.Math.min.name Lib.Math.min.code 2 (some .int) ∈ wG) (hR : 1 ≤ R.frames ∧ (st.map fun v => v.category).sum + 13 ≤ R.locals ∧ cells ≤ R.cells ∧ slots ≤ R.slots) (K : GW p l e R s m args below meth c A D nL cells slots Q (pc + 3) lv (.int (if y < x then y else x) :: st) gs) : GW p l e R s m args below meth c A D nL cells slots Q pc lv (.int y :: .int x :: st) gs := fun H locs ls hP hD hS hl =>
  va_mmin X.1 X.2.1 (X.2.2.1.trans hl.1.symm) X.2.2.2.1 (X.2.2.2.2.1 _ hlink) (X.2.2.2.2.1 _ hw.1) (X.2.2.2.2.1 _ hw.2.1) (X.2.2.2.2.1 _ hw.2.2) hR.1 hR.2.1 hR.2.2.1 hR.2.2.2 d (K H locs ls hP hD hS hl)
end GWR
end
section
/-! ===== contracts: av the arguments, g0 the cells that the method may touch, rv its answer, g1 what the cells are behind it ===== -/
def cmP (D : va_G) (cy : Nat → ClassId) (ad : (Nat → Nat) × (Nat → Nat)) (sz : Nat) (av : List Value) (w0 : va_W) : Array Value → State → Prop :=
  va_Pc av (fun U => U.heap.size = sz ∧ va_P D vwCl w0 U.heap ∧ va_K D vwCl (tyG cy) U ∧ va_D (fun _ => True) w0 ∧ gE ad (va_A w0 sz) U)
def cmQ (D : va_G) (cy : Nat → ClassId) (A : Nat → Prop) (rv : Option Value) (w1 : va_W) : Array Value → State → Outcome → State → Prop := fun _ st oc t =>
  (oc = .returned rv ∧ va_P D vwCl w1 t.heap ∧ va_K D vwCl (tyG cy) t ∧ va_D A w1) ∧ va_F A st t
def CM (l : Launch) (y : MethodName) (cc : ByteArray) (maxL : Nat) (ret : Option FieldType) (rm : Room) (D : va_G) (cy : Nat → ClassId) (ad : (Nat → Nat) × (Nat → Nat)) (av : List Value) (g0 : List va_W) (rv : Option Value) (g1 : List va_W) : Prop :=
  ∀ sz, Met l y (gW y cc maxL ret) rm (cmP D cy ad sz av g0.flatten) (cmQ D cy (va_A g0.flatten sz) rv g1.flatten) rm.cells rm.slots (va_A g0.flatten sz)
theorem cmP_blind {D : va_G} {cy : Nat → ClassId} {ad : (Nat → Nat) × (Nat → Nat)} {sz : Nat} {av : List Value} {w0 : va_W} : FrameBlind (cmP D cy ad sz av w0) := by
  intro a U g mk h
  obtain ⟨h1, h2, h3, h4, h5, h6⟩ := h
  exact ⟨h1, h2, h3, va_K.moved (u := U) (U := U.calling g mk a) (Vm.Alike.refl U.vm) h4, h5, gE_calling h6⟩
/-- a method by its body -/
theorem cm_of {l : Launch} {y : MethodName} {cc : ByteArray} {maxL : Nat} {ret : Option FieldType} {rm : Room} {D : va_G} {cy : Nat → ClassId} {ad : (Nat → Nat) × (Nat → Nat)} {av : List Value} {g0 : List va_W} {rv : Option Value} {g1 : List va_W} {lv0 : List (Nat × Value)}
    (hy : plainName y.cls = true) (hlen : (lg_sl av).length ≤ maxL) (hlv : lv_args 0 av = lv0)
    (body : ∀ {p : Program} {e : Env} {s : State} {m : MethodId} {args : Array Value} {below : List Frame} {meth : Method} {c : Code} {A : Nat → Prop}, gK p s m args meth c A D cy ad cc maxL y.cls → meth.sig.returnType = ret → meth.name = y.name →
      GW p l e rm s m args below meth c A D maxL 0 0 (MQ below (cmQ D cy A rv g1.flatten) args s rm.cells rm.slots A) 0 lv0 [] g0) : CM l y cc maxL ret rm D cy ad av g0 rv g1 := by
  intro sz
  refine Met.ofW (cc := cc) (maxL := maxL) (ret := ret) hy rfl ?_
  intro p e s m args below meth c s₁ B hml hv
  obtain ⟨rfl, hsz, hP, hK, hD0, hE⟩ := hv
  subst hsz
  have hD := hD0.self (sz := s.heap.size)
  have X : gK p s m av.toArray meth c (va_A g0.flatten s.heap.size) D cy ad cc maxL y.cls :=
    ⟨B.exec, B.bytes, hml, findClass_of_methodNamed B.named, fun w h => atoms_spec (ws := gW y cc maxL ret) B.pre w (List.mem_cons_of_mem _ h), hK, fun q h => Or.inr h, B.notSynchronized, hE⟩
  have hl := lv_entry av (n := maxL) hlen
  rw [hlv] at hl
  rw [lg_entry_eq]
  exact body X B.returns (name_of_methodNamed B.named B.method).1 _ _ _ hP hD va_S.rf hl
/-- what a call needs of the callee's words -/
def mF (y : MethodName) (cc : ByteArray) (maxL : Nat) (ret : Option FieldType) (n : Nat) : Prop :=
  Cond.code y cc maxL ret ∈ wG ∧ Cond.initialized y.cls ∈ wG ∧ (y.cls ≠ "java/lang/invoke/MethodHandle" ∧ y.cls ≠ "java/lang/invoke/VarHandle" ∧ (parseMethodDescriptor y.desc).map (fun d => d.parameters.length) = some n)
def mFV (y : MethodName) : Prop := Cond.instanceMethod y ∈ wG ∧ Cond.selects y.cls y y ∈ wG
section GWC
variable {p : Program} {l : Launch} {e : Env} {R : Room} {s : State} {m : MethodId} {args : Array Value} {below : List Frame} {meth : Method} {c : Code} {cells slots : Nat} {Q : State → Prop} {A : Nat → Prop} {D : va_G} {cy : Nat → ClassId} {ad : (Nat → Nat) × (Nat → Nat)} {cc : ByteArray} {nL : Nat} {own : String} {pc : Nat} {lv : List (Nat × Value)} {st rest : List Value} {gs : List va_W}
theorem g_iret (X : gK p s m args meth c A D cy ad cc nL own) {v : Int32} (hr : meth.sig.returnType = some .int) (d : decode cc pc = .ok (.ireturn, 1)) : GW p l e R s m args below meth c A D nL cells slots (MQ below (cmQ D cy A (some (.int v)) gs.flatten) args s cells slots A) pc lv [.int v] gs := fun H locs ls hP hD hS hl => W.iret X.1 X.2.1 hr (fun t ht hW => ⟨⟨rfl, by rw [ht]; exact hP, va_K.moved hW.alike X.2.2.2.2.2.1, hD⟩, hS.F ht⟩) hS.2.2 d (hlocks := X.2.2.2.2.2.2.2.1)
theorem g_zret (X : gK p s m args meth c A D cy ad cc nL own) {b : Bool} (hr : meth.sig.returnType = some .boolean) (d : decode cc pc = .ok (.ireturn, 1)) : GW p l e R s m args below meth c A D nL cells slots (MQ below (cmQ D cy A (some (.int (b2i b))) gs.flatten) args s cells slots A) pc lv [.int (b2i b)] gs := fun H locs ls hP hD hS hl => W.zret X.1 X.2.1 hr (b2i_nar b) (fun t ht hW => ⟨⟨rfl, by rw [ht]; exact hP, va_K.moved hW.alike X.2.2.2.2.2.1, hD⟩, hS.F ht⟩) hS.2.2 d (hlocks := X.2.2.2.2.2.2.2.1)
theorem g_tret (X : gK p s m args meth c A D cy ad cc nL own) {v : Int32} {ty : FieldType} (hr : meth.sig.returnType = some ty) (hn : narrow ty (.int v) = .int v) (d : decode cc pc = .ok (.ireturn, 1)) : GW p l e R s m args below meth c A D nL cells slots (MQ below (cmQ D cy A (some (.int v)) gs.flatten) args s cells slots A) pc lv [.int v] gs := fun H locs ls hP hD hS hl => W.zret X.1 X.2.1 hr hn (fun t ht hW => ⟨⟨rfl, by rw [ht]; exact hP, va_K.moved hW.alike X.2.2.2.2.2.1, hD⟩, hS.F ht⟩) hS.2.2 d (hlocks := X.2.2.2.2.2.2.2.1)
theorem g_lret (X : gK p s m args meth c A D cy ad cc nL own) {v : Int64} (hr : meth.sig.returnType = some .long) (d : decode cc pc = .ok (.lreturn, 1)) : GW p l e R s m args below meth c A D nL cells slots (MQ below (cmQ D cy A (some (.long v)) gs.flatten) args s cells slots A) pc lv [.long v] gs := fun H locs ls hP hD hS hl => W.lret X.1 X.2.1 hr (fun t ht hW => ⟨⟨rfl, by rw [ht]; exact hP, va_K.moved hW.alike X.2.2.2.2.2.1, hD⟩, hS.F ht⟩) hS.2.2 d (hlocks := X.2.2.2.2.2.2.2.1)
theorem g_vret (X : gK p s m args meth c A D cy ad cc nL own) (hr : meth.sig.returnType = none) (d : decode cc pc = .ok (.return_, 1)) : GW p l e R s m args below meth c A D nL cells slots (MQ below (cmQ D cy A none gs.flatten) args s cells slots A) pc lv [] gs := fun H locs ls hP hD hS hl => W.vret X.1 X.2.1 hr (fun t ht hW => ⟨⟨rfl, by rw [ht]; exact hP, va_K.moved hW.alike X.2.2.2.2.2.1, hD⟩, hS.F ht⟩) hS.2.2 d (hlocks := X.2.2.2.2.2.2.2.1)
theorem g_aret (X : gK p s m args meth c A D cy ad cc nL own) {v : Value} {rt : FieldType} (hr : meth.sig.returnType = some rt) (hrt : (∃ n, rt = .object n) ∨ ∃ t, rt = .array t) (hv : v = .null ∨ ∃ a, v = .ref a) (d : decode cc pc = .ok (.areturn, 1)) : GW p l e R s m args below meth c A D nL cells slots (MQ below (cmQ D cy A (some v) gs.flatten) args s cells slots A) pc lv [v] gs := fun H locs ls hP hD hS hl => W.aret X.1 X.2.1 hr hrt hv (fun t ht hW => ⟨⟨rfl, by rw [ht]; exact hP, va_K.moved hW.alike X.2.2.2.2.2.1, hD⟩, hS.F ht⟩) hS.2.2 d (hlocks := X.2.2.2.2.2.2.2.1)
theorem g_widen {k n : Nat} (h1 : cells ≤ k) (h2 : slots ≤ n) (K : GW p l e R s m args below meth c A D nL k n Q pc lv st gs) : GW p l e R s m args below meth c A D nL cells slots Q pc lv st gs := fun H locs ls hP hD hS hl => W.widen h1 h2 (K H locs ls hP hD hS hl)
/-- the frame rule of calls: what came back, beside the rest -/
theorem g_back {y : MethodName} {mc ms : Nat} {av : List Value} {gc gr gc' gs' : List va_W} {rv : Option Value} {H : Heap} {locs : List Loc} {ls : Array Slot} {g : JFrame} {rest : List Value}
    (X : gK p s m args meth c A D cy ad cc nL own) (h1 : gs.Perm (gc ++ gr)) (h2 : (gc' ++ gr).Perm gs') (hP : va_P D vwCl gs.flatten H) (hD : va_D A gs.flatten) (hS : va_S A s.heap H locs) (hl : lv_has ls nL lv)
    (hr : va_Run p l e R s m args below meth c H locs cells slots mc ms (F0 m pc ls g.stack) rest (cmQ D cy (va_A gc.flatten H.size) rv gc'.flatten av.toArray) (va_A gc.flatten H.size))
    (K : GW p l e R s m args below meth c A D nL (cells + mc) (slots + ms) Q (pc + 3) lv (rv.toList ++ rest) gs') : W p l e R s m args below meth c H locs cells slots Q (F0 m pc ls g.stack) := by
  intro T hT XS
  obtain ⟨v, st₀, t, T', L, h0, X', hL, e1, e2, ⟨⟨hv, hP1, hK1, hD1⟩, hz, hk⟩, st⟩ := hr T hT XS
  cases hv
  rw [h0] at hz hk
  have p1 := gp_fl h1
  rw [List.flatten_append] at p1
  have hP' := gp_P p1 hP
  have hD' := gp_D p1 hD
  have hF : ∀ q, va_A gc.flatten H.size q → A q := by
    intro q h
    rcases h with ⟨k, e9, h⟩ | h
    · have hk9 : k < gc.flatten.length := (List.getElem?_eq_some_iff.mp h).1
      exact hD'.2 k (q, e9) (by rw [List.getElem?_append_left hk9]; exact h)
    · exact X.2.2.2.2.2.2.1 q (Nat.le_trans hS.1 h)
  have hk' : ∀ q : Nat, q < H.size → ¬ va_A gc.flatten H.size q → t.heap[q]? = H[q]? := fun q a b => hk q a b
  obtain ⟨j1, j2⟩ := gp_join (w1 := gc'.flatten) hP' hD' hk' hF hP1 hD1
  rw [← List.flatten_append] at j1 j2
  have hS' : va_S A s.heap t.heap (locs ++ L) := ⟨Nat.le_trans hS.1 hz, fun q a b => by rw [hk q (Nat.lt_of_lt_of_le a hS.1) (fun z => b (hF q z))]; exact hS.2.1 q a b, fun q hq => by
    rcases List.mem_append.mp hq with h | h
    · exact hS.2.2 q h
    · exact hF _ (hL q h)⟩
  obtain ⟨t2, a1, b1⟩ := K t.heap (locs ++ L) ls (gp_P (gp_fl h2) j1) (gp_D (gp_fl h2) j2) hS' hl T' e1 X'
  exact ⟨t2, st t2 a1, b1⟩
/-- the callee's start, out of the caller's world -/
theorem g_pre {gc gr : List va_W} {H : Heap} {locs : List Loc} (X : gK p s m args meth c A D cy ad cc nL own) (h1 : gs.Perm (gc ++ gr)) (hP : va_P D vwCl gs.flatten H) (hD : va_D A gs.flatten) (hS : va_S A s.heap H locs) (av : List Value) :
    ∀ U : State, U.heap = H → s.WarmedH U.vm → cmP D cy ad H.size av gc.flatten av.toArray U := by
  intro U hU hW
  have p1 := gp_fl h1
  rw [List.flatten_append] at p1
  have hP' := gp_P p1 hP
  have hD' := gp_D p1 hD
  have hPc : va_P D vwCl gc.flatten H := by
    intro k q hk
    have hk9 : k < gc.flatten.length := (List.getElem?_eq_some_iff.mp hk).1
    exact hP' k q (by rw [List.getElem?_append_left hk9]; exact hk)
  have hDc : va_D A gc.flatten := by
    rw [gp_iff] at hD' ⊢
    rw [List.map_append, List.nodup_append] at hD'
    exact ⟨hD'.1.1, fun q hq => hD'.2 q (List.mem_append_left _ hq)⟩
  have hF : ∀ q, va_A gc.flatten H.size q → A q := by
    intro q h
    rcases h with ⟨k, e9, h⟩ | h
    · exact hDc.2 k (q, e9) h
    · exact X.2.2.2.2.2.2.1 q (Nat.le_trans hS.1 h)
  exact ⟨rfl, by rw [hU], by rw [hU]; exact hPc, va_K.moved hW.alike X.2.2.2.2.2.1, hDc.weaken (fun _ _ _ _ => trivial), gE_go X.2.2.2.2.2.2.2.2 hS hU hW hF⟩
theorem g_callV (X : gK p s m args meth c A D cy ad cc nL own) {index : Nat} {y : MethodName} {bytes : ByteArray} {maxL : Nat} {ret : Option FieldType} {rm : Room} {As : List Value} {gc gc' gs' : List va_W} {rv : Option Value} {b : Nat} {C : String} {T : u_T} {N ci : Nat} {gl : va_W} {fs : List Value} (d : decode cc pc = .ok (.invokevirtual index, 3)) (hM : CM l y bytes maxL ret rm D cy ad (.ref b :: As) gc rv gc') (hm : mF y bytes maxL ret As.length) (hv : mFV y) (hlink : Cond.methodLink own index y ∈ wG) (hR : rm.frames + 1 ≤ R.frames ∧ 8 + (maxL + 11) + rm.locals ≤ R.locals ∧ cells + rm.cells ≤ R.cells ∧ slots + rm.slots ≤ R.slots) (g9 q9 : Nat) (r1 : gs[g9]? = some gl) (r2 : gl[q9]? = some (b, .inr (ci, fs))) (r3 : vwCl[ci]? = some (C, T, N)) (r4 : C = y.cls)
    (is : List Nat) (gr : List va_W) (hp : is.Perm (List.range gs.length)) (h1 : is.filterMap (fun i => gs[i]?) = gc ++ gr) (hp' : is.Perm (List.range gs'.length)) (h2 : is.filterMap (fun i => gs'[i]?) = gc' ++ gr) (hW : (rest.map fun v => v.category).sum ≤ 8) (hst : st = As.reverse ++ .ref b :: rest) (K : GW p l e R s m args below meth c A D nL (cells + rm.cells) (slots + rm.slots) Q (pc + 3) lv (rv.toList ++ rest) gs') : GW p l e R s m args below meth c A D nL cells slots Q pc lv st gs := by
  intro H locs ls hP hD hS hl
  subst hst
  subst r4
  have q1 := gp_pick hp h1
  have q2 := gp_pick hp' h2
  obtain ⟨i, hi, -⟩ := fl_get gs g9 q9 r1 r2
  have hr := va_runV (g := F0 m pc ls (As.reverse ++ .ref b :: rest)) (rest := rest) (R := R) (cells := cells) (slots := slots) (below := below) (meth := meth) (e := e) (locs := locs) (n := As.length) (C := y.cls) (index := index) (bytes := bytes) (maxL := maxL) (ret := ret) ⟨X.1, X.2.1, X.2.2.1, X.2.2.2.1, X.2.2.2.2.1⟩ (hM H.size)
    ⟨callB_of As.length X.2.2.2.2.1 (gW_good hm.1) rfl rfl rfl (X.2.2.2.2.1 _ hm.2.1) (X.2.2.2.2.1 _ hlink) hm.2.2 ⟨hR.1, hR.2.1⟩, X.2.2.2.2.1 _ hv.1, X.2.2.2.2.1 _ hv.2⟩
    ⟨cmP_blind, va_recv X.2.2.2.2.2.1 hP r3 hi, g_pre X q1 hP hD hS _⟩ rfl rfl hl.1 rfl (lv_room hW) d ⟨hR.2.2.1, hR.2.2.2⟩
  exact g_back (y := y) (av := .ref b :: As) (g := F0 m pc ls (As.reverse ++ .ref b :: rest)) X q1 q2.symm hP hD hS hl hr K
theorem g_callS (X : gK p s m args meth c A D cy ad cc nL own) {index : Nat} {y : MethodName} {bytes : ByteArray} {maxL : Nat} {ret : Option FieldType} {rm : Room} {As : List Value} {gc gc' gs' : List va_W} {rv : Option Value} (d : decode cc pc = .ok (.invokestatic index, 3)) (hM : CM l y bytes maxL ret rm D cy ad As gc rv gc') (hm : mF y bytes maxL ret As.length) (hv : Cond.static y ∈ wG) (hlink : Cond.methodLink own index y ∈ wG) (hR : rm.frames + 1 ≤ R.frames ∧ 8 + (maxL + 11) + rm.locals ≤ R.locals ∧ cells + rm.cells ≤ R.cells ∧ slots + rm.slots ≤ R.slots)
    (is : List Nat) (gr : List va_W) (hp : is.Perm (List.range gs.length)) (h1 : is.filterMap (fun i => gs[i]?) = gc ++ gr) (hp' : is.Perm (List.range gs'.length)) (h2 : is.filterMap (fun i => gs'[i]?) = gc' ++ gr) (hW : (rest.map fun v => v.category).sum ≤ 8) (hst : st = As.reverse ++ rest) (K : GW p l e R s m args below meth c A D nL (cells + rm.cells) (slots + rm.slots) Q (pc + 3) lv (rv.toList ++ rest) gs') : GW p l e R s m args below meth c A D nL cells slots Q pc lv st gs := by
  intro H locs ls hP hD hS hl
  subst hst
  have q1 := gp_pick hp h1
  have q2 := gp_pick hp' h2
  have hr := va_runS (g := F0 m pc ls (As.reverse ++ rest)) (rest := rest) (R := R) (cells := cells) (slots := slots) (below := below) (meth := meth) (e := e) (locs := locs) (n := As.length) (index := index) (bytes := bytes) (maxL := maxL) (ret := ret) ⟨X.1, X.2.1, X.2.2.1, X.2.2.2.1, X.2.2.2.2.1⟩ (hM H.size)
    ⟨callB_of As.length X.2.2.2.2.1 (gW_good hm.1) rfl rfl rfl (X.2.2.2.2.1 _ hm.2.1) (X.2.2.2.2.1 _ hlink) hm.2.2 ⟨hR.1, hR.2.1⟩, X.2.2.2.2.1 _ hv⟩
    ⟨cmP_blind, g_pre X q1 hP hD hS _⟩ rfl rfl hl.1 rfl (lv_room hW) d ⟨hR.2.2.1, hR.2.2.2⟩
  exact g_back (y := y) (av := As) (g := F0 m pc ls (As.reverse ++ rest)) X q1 q2.symm hP hD hS hl hr K
theorem g_callI (X : gK p s m args meth c A D cy ad cc nL own) {index : Nat} {y : MethodName} {bytes : ByteArray} {maxL : Nat} {rm : Room} {As : List Value} {gc gc' gs' : List va_W} {rv : Option Value} {b : Nat} (d : decode cc pc = .ok (.invokespecial index, 3)) (hM : CM l y bytes maxL none rm D cy ad (.ref b :: As) gc rv gc') (hm : mF y bytes maxL none As.length) (hv : Cond.instanceMethod y ∈ wG) (hn : y.name = "<init>") (hlink : Cond.methodLink own index y ∈ wG) (hR : rm.frames + 1 ≤ R.frames ∧ 8 + (maxL + 11) + rm.locals ≤ R.locals ∧ cells + rm.cells ≤ R.cells ∧ slots + rm.slots ≤ R.slots)
    (is : List Nat) (gr : List va_W) (hp : is.Perm (List.range gs.length)) (h1 : is.filterMap (fun i => gs[i]?) = gc ++ gr) (hp' : is.Perm (List.range gs'.length)) (h2 : is.filterMap (fun i => gs'[i]?) = gc' ++ gr) (hW : (rest.map fun v => v.category).sum ≤ 8) (hst : st = As.reverse ++ .ref b :: rest) (K : GW p l e R s m args below meth c A D nL (cells + rm.cells) (slots + rm.slots) Q (pc + 3) lv (rv.toList ++ rest) gs') : GW p l e R s m args below meth c A D nL cells slots Q pc lv st gs := by
  intro H locs ls hP hD hS hl
  subst hst
  have q1 := gp_pick hp h1
  have q2 := gp_pick hp' h2
  have hr := va_runI (g := F0 m pc ls (As.reverse ++ .ref b :: rest)) (rest := rest) (R := R) (cells := cells) (slots := slots) (below := below) (meth := meth) (e := e) (locs := locs) (n := As.length) (index := index) (bytes := bytes) (maxL := maxL) ⟨X.1, X.2.1, X.2.2.1, X.2.2.2.1, X.2.2.2.2.1⟩ (hM H.size)
    ⟨callB_of As.length X.2.2.2.2.1 (gW_good hm.1) rfl rfl rfl (X.2.2.2.2.1 _ hm.2.1) (X.2.2.2.2.1 _ hlink) hm.2.2 ⟨hR.1, hR.2.1⟩, hn, X.2.2.2.2.1 _ hv⟩
    ⟨cmP_blind, g_pre X q1 hP hD hS _⟩ rfl rfl hl.1 rfl (lv_room hW) d ⟨hR.2.2.1, hR.2.2.2⟩
  exact g_back (y := y) (av := .ref b :: As) (g := F0 m pc ls (As.reverse ++ .ref b :: rest)) X q1 q2.symm hP hD hS hl hr K
theorem g_callSN (X : gK p s m args meth c A D cy ad cc nL own) {index : Nat} {y : MethodName} {bytes : ByteArray} {maxL : Nat} {ret : Option FieldType} {rm : Room} {As : List Value} {gc gc' gs' : List va_W} {rv : Option Value} {host : String} (d : decode cc pc = .ok (.invokestatic index, 3)) (hM : CM l y bytes maxL ret rm D cy ad As gc rv gc') (hm : mF y bytes maxL ret As.length) (hv : Cond.static y ∈ wG) (hlink : (own, index, y, host) ∈ neTab) (hR : rm.frames + 1 ≤ R.frames ∧ 8 + (maxL + 11) + rm.locals ≤ R.locals ∧ cells + rm.cells ≤ R.cells ∧ slots + rm.slots ≤ R.slots)
    (is : List Nat) (gr : List va_W) (hp : is.Perm (List.range gs.length)) (h1 : is.filterMap (fun i => gs[i]?) = gc ++ gr) (hp' : is.Perm (List.range gs'.length)) (h2 : is.filterMap (fun i => gs'[i]?) = gc' ++ gr) (hW : (rest.map fun v => v.category).sum ≤ 8) (hst : st = As.reverse ++ rest) (K : GW p l e R s m args below meth c A D nL (cells + rm.cells) (slots + rm.slots) Q (pc + 3) lv (rv.toList ++ rest) gs') : GW p l e R s m args below meth c A D nL cells slots Q pc lv st gs := by
  intro H locs ls hP hD hS hl
  subst hst
  have q1 := gp_pick hp h1
  have q2 := gp_pick hp' h2
  have hr := va_runSN (g := F0 m pc ls (As.reverse ++ rest)) (rest := rest) (R := R) (cells := cells) (slots := slots) (below := below) (meth := meth) (e := e) (locs := locs) (n := As.length) (index := index) (bytes := bytes) (maxL := maxL) (ret := ret) (host := host) ⟨X.1, X.2.1, X.2.2.1, X.2.2.2.1, X.2.2.2.2.1⟩ (hM H.size)
    ⟨va_cnB As.length X.2.2.2.2.1 (gW_good hm.1) rfl rfl rfl (X.2.2.2.2.2.2.2.2.2.2.2.2.2.1 _ hlink) (X.2.2.2.2.1 _ hm.2.1) hm.2.2 ⟨hR.1, hR.2.1⟩, X.2.2.2.2.1 _ hv, trivial⟩
    ⟨cmP_blind, g_pre X q1 hP hD hS _⟩ rfl rfl hl.1 rfl (lv_room hW) d ⟨hR.2.2.1, hR.2.2.2⟩
  exact g_back (y := y) (av := As) (g := F0 m pc ls (As.reverse ++ rest)) X q1 q2.symm hP hD hS hl hr K
theorem g_callIN (X : gK p s m args meth c A D cy ad cc nL own) {index : Nat} {y : MethodName} {bytes : ByteArray} {maxL : Nat} {rm : Room} {As : List Value} {gc gc' gs' : List va_W} {rv : Option Value} {host : String} {b : Nat} (d : decode cc pc = .ok (.invokespecial index, 3)) (hM : CM l y bytes maxL none rm D cy ad (.ref b :: As) gc rv gc') (hm : mF y bytes maxL none As.length) (hv : Cond.instanceMethod y ∈ wG) (hn : y.name = "<init>") (hlink : (own, index, y, host) ∈ neTab) (hR : rm.frames + 1 ≤ R.frames ∧ 8 + (maxL + 11) + rm.locals ≤ R.locals ∧ cells + rm.cells ≤ R.cells ∧ slots + rm.slots ≤ R.slots)
    (is : List Nat) (gr : List va_W) (hp : is.Perm (List.range gs.length)) (h1 : is.filterMap (fun i => gs[i]?) = gc ++ gr) (hp' : is.Perm (List.range gs'.length)) (h2 : is.filterMap (fun i => gs'[i]?) = gc' ++ gr) (hW : (rest.map fun v => v.category).sum ≤ 8) (hst : st = As.reverse ++ .ref b :: rest) (K : GW p l e R s m args below meth c A D nL (cells + rm.cells) (slots + rm.slots) Q (pc + 3) lv (rv.toList ++ rest) gs') : GW p l e R s m args below meth c A D nL cells slots Q pc lv st gs := by
  intro H locs ls hP hD hS hl
  subst hst
  have q1 := gp_pick hp h1
  have q2 := gp_pick hp' h2
  have hr := va_runIN (g := F0 m pc ls (As.reverse ++ .ref b :: rest)) (rest := rest) (R := R) (cells := cells) (slots := slots) (below := below) (meth := meth) (e := e) (locs := locs) (n := As.length) (index := index) (bytes := bytes) (maxL := maxL) (host := host) ⟨X.1, X.2.1, X.2.2.1, X.2.2.2.1, X.2.2.2.2.1⟩ (hM H.size)
    ⟨va_cnB As.length X.2.2.2.2.1 (gW_good hm.1) rfl rfl rfl (X.2.2.2.2.2.2.2.2.2.2.2.2.2.1 _ hlink) (X.2.2.2.2.1 _ hm.2.1) hm.2.2 ⟨hR.1, hR.2.1⟩, hn, X.2.2.2.2.1 _ hv⟩
    ⟨cmP_blind, g_pre X q1 hP hD hS _⟩ rfl rfl hl.1 rfl (lv_room hW) d ⟨hR.2.2.1, hR.2.2.2⟩
  exact g_back (y := y) (av := .ref b :: As) (g := F0 m pc ls (As.reverse ++ .ref b :: rest)) X q1 q2.symm hP hD hS hl hr K
end GWC
end
section
/-! ===== the words that methods use, by their places ===== -/
theorem lkf_X7_10 : Cond.fieldLink RX7 10 (TX7 0).1 (TX7 0).2.1 (TX7 0).2.2.1 ∈ wG := wG_in 245 (by decide +kernel) (by decide +kernel)
theorem lkf_X7_19 : Cond.fieldLink RX7 19 (TX7 1).1 (TX7 1).2.1 (TX7 1).2.2.1 ∈ wG := wG_in 246 (by decide +kernel) (by decide +kernel)
theorem lkf_X7_23 : Cond.fieldLink RX7 23 (TX7 2).1 (TX7 2).2.1 (TX7 2).2.2.1 ∈ wG := wG_in 247 (by decide +kernel) (by decide +kernel)
theorem lkf_X7_29 : Cond.fieldLink RX7 29 (TX7 3).1 (TX7 3).2.1 (TX7 3).2.2.1 ∈ wG := wG_in 248 (by decide +kernel) (by decide +kernel)
theorem lkf_X7_36 : Cond.fieldLink RX7 36 (TX7 4).1 (TX7 4).2.1 (TX7 4).2.2.1 ∈ wG := wG_in 249 (by decide +kernel) (by decide +kernel)
theorem lkf_X7_40 : Cond.fieldLink RX7 40 (TX7 5).1 (TX7 5).2.1 (TX7 5).2.2.1 ∈ wG := wG_in 250 (by decide +kernel) (by decide +kernel)
theorem lkf_X7_46 : Cond.fieldLink RX7 46 (TX7 6).1 (TX7 6).2.1 (TX7 6).2.2.1 ∈ wG := wG_in 251 (by decide +kernel) (by decide +kernel)
theorem lkf_X7_54 : Cond.fieldLink RX7 54 (TX7 7).1 (TX7 7).2.1 (TX7 7).2.2.1 ∈ wG := wG_in 252 (by decide +kernel) (by decide +kernel)
theorem lkf_X7_61 : Cond.fieldLink RX7 61 (TX7 8).1 (TX7 8).2.1 (TX7 8).2.2.1 ∈ wG := wG_in 253 (by decide +kernel) (by decide +kernel)
theorem lkf_X7_74 : Cond.fieldLink RX7 74 (TX6 1).1 (TX6 1).2.1 (TX6 1).2.2.1 ∈ wG := wG_in 58 (by decide +kernel) (by decide +kernel)
theorem lkf_X7_97 : Cond.fieldLink RX7 97 (TX6 3).1 (TX6 3).2.1 (TX6 3).2.2.1 ∈ wG := wG_in 62 (by decide +kernel) (by decide +kernel)
theorem lkf_X7_101 : Cond.fieldLink RX7 101 (TX6 2).1 (TX6 2).2.1 (TX6 2).2.2.1 ∈ wG := wG_in 60 (by decide +kernel) (by decide +kernel)
theorem lkf_X7_113 : Cond.fieldLink RX7 113 (TX2 1).1 (TX2 1).2.1 (TX2 1).2.2.1 ∈ wG := wG_in 205 (by decide +kernel) (by decide +kernel)
theorem lkf_X7_116 : Cond.fieldLink RX7 116 (TX6 4).1 (TX6 4).2.1 (TX6 4).2.2.1 ∈ wG := wG_in 64 (by decide +kernel) (by decide +kernel)
theorem lkf_X7_119 : Cond.fieldLink RX7 119 (TX6 5).1 (TX6 5).2.1 (TX6 5).2.2.1 ∈ wG := wG_in 66 (by decide +kernel) (by decide +kernel)
theorem lkf_X7_129 : Cond.fieldLink RX7 129 (TX6 6).1 (TX6 6).2.1 (TX6 6).2.2.1 ∈ wG := wG_in 68 (by decide +kernel) (by decide +kernel)
theorem lkf_X7_132 : Cond.fieldLink RX7 132 (TX6 7).1 (TX6 7).2.1 (TX6 7).2.2.1 ∈ wG := wG_in 70 (by decide +kernel) (by decide +kernel)
theorem lkf_X7_135 : Cond.fieldLink RX7 135 (TX6 8).1 (TX6 8).2.1 (TX6 8).2.2.1 ∈ wG := wG_in 72 (by decide +kernel) (by decide +kernel)
theorem lkf_X7_145 : Cond.fieldLink RX7 145 (TX4 0).1 (TX4 0).2.1 (TX4 0).2.2.1 ∈ wG := wG_in 138 (by decide +kernel) (by decide +kernel)
theorem lkf_X7_149 : Cond.fieldLink RX7 149 (TX4 8).1 (TX4 8).2.1 (TX4 8).2.2.1 ∈ wG := wG_in 152 (by decide +kernel) (by decide +kernel)
theorem lkf_X7_158 : Cond.fieldLink RX7 158 (TX4 6).1 (TX4 6).2.1 (TX4 6).2.2.1 ∈ wG := wG_in 149 (by decide +kernel) (by decide +kernel)
theorem lkf_X7_161 : Cond.fieldLink RX7 161 (TX4 2).1 (TX4 2).2.1 (TX4 2).2.2.1 ∈ wG := wG_in 141 (by decide +kernel) (by decide +kernel)
theorem lkf_X7_164 : Cond.fieldLink RX7 164 (TX4 3).1 (TX4 3).2.1 (TX4 3).2.2.1 ∈ wG := wG_in 143 (by decide +kernel) (by decide +kernel)
theorem lkf_X7_170 : Cond.fieldLink RX7 170 (TX4 4).1 (TX4 4).2.1 (TX4 4).2.2.1 ∈ wG := wG_in 145 (by decide +kernel) (by decide +kernel)
theorem lkf_X7_173 : Cond.fieldLink RX7 173 (TX4 5).1 (TX4 5).2.1 (TX4 5).2.2.1 ∈ wG := wG_in 147 (by decide +kernel) (by decide +kernel)
theorem lkf_X7_249 : Cond.fieldLink RX7 249 (TX0 2).1 (TX0 2).2.1 (TX0 2).2.2.1 ∈ wG := wG_in 187 (by decide +kernel) (by decide +kernel)
theorem lkf_X7_310 : Cond.fieldLink RX7 310 (TX2 0).1 (TX2 0).2.1 (TX2 0).2.2.1 ∈ wG := wG_in 204 (by decide +kernel) (by decide +kernel)
theorem lkf_X0_11 : Cond.fieldLink RX0 11 (TX0 0).1 (TX0 0).2.1 (TX0 0).2.2.1 ∈ wG := wG_in 184 (by decide +kernel) (by decide +kernel)
theorem lkf_X0_18 : Cond.fieldLink RX0 18 (TX0 1).1 (TX0 1).2.1 (TX0 1).2.2.1 ∈ wG := wG_in 185 (by decide +kernel) (by decide +kernel)
theorem lkf_X0_22 : Cond.fieldLink RX0 22 (TX0 2).1 (TX0 2).2.1 (TX0 2).2.2.1 ∈ wG := wG_in 186 (by decide +kernel) (by decide +kernel)
theorem lkf_X1_9 : Cond.fieldLink RX1 9 (TX1 0).1 (TX1 0).2.1 (TX1 0).2.2.1 ∈ wG := wG_in 116 (by decide +kernel) (by decide +kernel)
theorem lkf_X1_15 : Cond.fieldLink RX1 15 (TX1 1).1 (TX1 1).2.1 (TX1 1).2.2.1 ∈ wG := wG_in 118 (by decide +kernel) (by decide +kernel)
theorem lkf_X1_18 : Cond.fieldLink RX1 18 (TX1 2).1 (TX1 2).2.1 (TX1 2).2.2.1 ∈ wG := wG_in 120 (by decide +kernel) (by decide +kernel)
theorem lkf_X1_21 : Cond.fieldLink RX1 21 (TX1 3).1 (TX1 3).2.1 (TX1 3).2.2.1 ∈ wG := wG_in 121 (by decide +kernel) (by decide +kernel)
theorem lkf_X1_30 : Cond.fieldLink RX1 30 (TX1 4).1 (TX1 4).2.1 (TX1 4).2.2.1 ∈ wG := wG_in 122 (by decide +kernel) (by decide +kernel)
theorem lkf_X1_33 : Cond.fieldLink RX1 33 (TX1 5).1 (TX1 5).2.1 (TX1 5).2.2.1 ∈ wG := wG_in 123 (by decide +kernel) (by decide +kernel)
theorem lkf_X2_10 : Cond.fieldLink RX2 10 (TX2 0).1 (TX2 0).2.1 (TX2 0).2.2.1 ∈ wG := wG_in 203 (by decide +kernel) (by decide +kernel)
theorem lkf_X3_9 : Cond.fieldLink RX3 9 (TX3 0).1 (TX3 0).2.1 (TX3 0).2.2.1 ∈ wG := wG_in 105 (by decide +kernel) (by decide +kernel)
theorem lkf_X3_27 : Cond.fieldLink RX3 27 (TX1 0).1 (TX1 0).2.1 (TX1 0).2.2.1 ∈ wG := wG_in 117 (by decide +kernel) (by decide +kernel)
theorem lkf_X3_31 : Cond.fieldLink RX3 31 (TX1 1).1 (TX1 1).2.1 (TX1 1).2.2.1 ∈ wG := wG_in 119 (by decide +kernel) (by decide +kernel)
theorem lkf_X4_9 : Cond.fieldLink RX4 9 (TX4 7).1 (TX4 7).2.1 (TX4 7).2.2.1 ∈ wG := wG_in 150 (by decide +kernel) (by decide +kernel)
theorem lkf_X4_18 : Cond.fieldLink RX4 18 (TX4 8).1 (TX4 8).2.1 (TX4 8).2.2.1 ∈ wG := wG_in 151 (by decide +kernel) (by decide +kernel)
theorem lkf_X4_25 : Cond.fieldLink RX4 25 (TX4 9).1 (TX4 9).2.1 (TX4 9).2.2.1 ∈ wG := wG_in 153 (by decide +kernel) (by decide +kernel)
theorem lkf_X4_33 : Cond.fieldLink RX4 33 (TX4 2).1 (TX4 2).2.1 (TX4 2).2.2.1 ∈ wG := wG_in 140 (by decide +kernel) (by decide +kernel)
theorem lkf_X4_37 : Cond.fieldLink RX4 37 (TX4 3).1 (TX4 3).2.1 (TX4 3).2.2.1 ∈ wG := wG_in 142 (by decide +kernel) (by decide +kernel)
theorem lkf_X4_40 : Cond.fieldLink RX4 40 (TX4 4).1 (TX4 4).2.1 (TX4 4).2.2.1 ∈ wG := wG_in 144 (by decide +kernel) (by decide +kernel)
theorem lkf_X4_43 : Cond.fieldLink RX4 43 (TX4 5).1 (TX4 5).2.1 (TX4 5).2.2.1 ∈ wG := wG_in 146 (by decide +kernel) (by decide +kernel)
theorem lkf_X4_46 : Cond.fieldLink RX4 46 (TX4 0).1 (TX4 0).2.1 (TX4 0).2.2.1 ∈ wG := wG_in 137 (by decide +kernel) (by decide +kernel)
theorem lkf_X4_49 : Cond.fieldLink RX4 49 (TX4 1).1 (TX4 1).2.1 (TX4 1).2.2.1 ∈ wG := wG_in 139 (by decide +kernel) (by decide +kernel)
theorem lkf_X4_52 : Cond.fieldLink RX4 52 (TX4 6).1 (TX4 6).2.1 (TX4 6).2.2.1 ∈ wG := wG_in 148 (by decide +kernel) (by decide +kernel)
theorem lkf_X5_7 : Cond.fieldLink RX5 7 (TX5 0).1 (TX5 0).2.1 (TX5 0).2.2.1 ∈ wG := wG_in 217 (by decide +kernel) (by decide +kernel)
theorem lkf_X5_13 : Cond.fieldLink RX5 13 (TX5 1).1 (TX5 1).2.1 (TX5 1).2.2.1 ∈ wG := wG_in 218 (by decide +kernel) (by decide +kernel)
theorem lkf_X5_16 : Cond.fieldLink RX5 16 (TX5 2).1 (TX5 2).2.1 (TX5 2).2.2.1 ∈ wG := wG_in 219 (by decide +kernel) (by decide +kernel)
theorem lkf_X6_9 : Cond.fieldLink RX6 9 (TX6 0).1 (TX6 0).2.1 (TX6 0).2.2.1 ∈ wG := wG_in 56 (by decide +kernel) (by decide +kernel)
theorem lkf_X6_15 : Cond.fieldLink RX6 15 (TX6 1).1 (TX6 1).2.1 (TX6 1).2.2.1 ∈ wG := wG_in 57 (by decide +kernel) (by decide +kernel)
theorem lkf_X6_19 : Cond.fieldLink RX6 19 (TX6 3).1 (TX6 3).2.1 (TX6 3).2.2.1 ∈ wG := wG_in 61 (by decide +kernel) (by decide +kernel)
theorem lkf_X6_23 : Cond.fieldLink RX6 23 (TX6 2).1 (TX6 2).2.1 (TX6 2).2.2.1 ∈ wG := wG_in 59 (by decide +kernel) (by decide +kernel)
theorem lkf_X6_36 : Cond.fieldLink RX6 36 (TX6 4).1 (TX6 4).2.1 (TX6 4).2.2.1 ∈ wG := wG_in 63 (by decide +kernel) (by decide +kernel)
theorem lkf_X6_44 : Cond.fieldLink RX6 44 (TX6 5).1 (TX6 5).2.1 (TX6 5).2.2.1 ∈ wG := wG_in 65 (by decide +kernel) (by decide +kernel)
theorem lkf_X6_49 : Cond.fieldLink RX6 49 (TX6 6).1 (TX6 6).2.1 (TX6 6).2.2.1 ∈ wG := wG_in 67 (by decide +kernel) (by decide +kernel)
theorem lkf_X6_56 : Cond.fieldLink RX6 56 (TX6 7).1 (TX6 7).2.1 (TX6 7).2.2.1 ∈ wG := wG_in 69 (by decide +kernel) (by decide +kernel)
theorem lkf_X6_61 : Cond.fieldLink RX6 61 (TX6 8).1 (TX6 8).2.1 (TX6 8).2.2.1 ∈ wG := wG_in 71 (by decide +kernel) (by decide +kernel)
theorem lkf_X8_7 : Cond.fieldLink RX8 7 (TX8 1).1 (TX8 1).2.1 (TX8 1).2.2.1 ∈ wG := wG_in 899 (by decide +kernel) (by decide +kernel)
theorem lkf_X8_13 : Cond.fieldLink RX8 13 (TX8 3).1 (TX8 3).2.1 (TX8 3).2.2.1 ∈ wG := wG_in 901 (by decide +kernel) (by decide +kernel)
theorem lkf_X8_16 : Cond.fieldLink RX8 16 (TX8 4).1 (TX8 4).2.1 (TX8 4).2.2.1 ∈ wG := wG_in 902 (by decide +kernel) (by decide +kernel)
theorem lkf_X8_19 : Cond.fieldLink RX8 19 (TX8 5).1 (TX8 5).2.1 (TX8 5).2.2.1 ∈ wG := wG_in 903 (by decide +kernel) (by decide +kernel)
theorem lkf_X8_22 : Cond.fieldLink RX8 22 (TX8 7).1 (TX8 7).2.1 (TX8 7).2.2.1 ∈ wG := wG_in 905 (by decide +kernel) (by decide +kernel)
theorem lkf_X8_25 : Cond.fieldLink RX8 25 (TX8 8).1 (TX8 8).2.1 (TX8 8).2.2.1 ∈ wG := wG_in 906 (by decide +kernel) (by decide +kernel)
theorem lkf_X8_29 : Cond.fieldLink RX8 29 (TX8 9).1 (TX8 9).2.1 (TX8 9).2.2.1 ∈ wG := wG_in 907 (by decide +kernel) (by decide +kernel)
theorem lkf_X8_32 : Cond.fieldLink RX8 32 (TX8 11).1 (TX8 11).2.1 (TX8 11).2.2.1 ∈ wG := wG_in 909 (by decide +kernel) (by decide +kernel)
theorem lkf_X8_39 : Cond.fieldLink RX8 39 (TX8 0).1 (TX8 0).2.1 (TX8 0).2.2.1 ∈ wG := wG_in 898 (by decide +kernel) (by decide +kernel)
theorem lkf_X8_83 : Cond.fieldLink RX8 83 (TX8 10).1 (TX8 10).2.1 (TX8 10).2.2.1 ∈ wG := wG_in 908 (by decide +kernel) (by decide +kernel)
theorem lkf_X8_99 : Cond.fieldLink RX8 99 (TX8 2).1 (TX8 2).2.1 (TX8 2).2.2.1 ∈ wG := wG_in 900 (by decide +kernel) (by decide +kernel)
theorem lkf_X8_106 : Cond.fieldLink RX8 106 (TX8 12).1 (TX8 12).2.1 (TX8 12).2.2.1 ∈ wG := wG_in 910 (by decide +kernel) (by decide +kernel)
theorem lkf_X8_117 : Cond.fieldLink RX8 117 (TX8 13).1 (TX8 13).2.1 (TX8 13).2.2.1 ∈ wG := wG_in 911 (by decide +kernel) (by decide +kernel)
theorem lkf_X8_158 : Cond.fieldLink RX8 158 (TX8 6).1 (TX8 6).2.1 (TX8 6).2.2.1 ∈ wG := wG_in 904 (by decide +kernel) (by decide +kernel)
theorem lkm_X7_1 : Cond.methodLink RX7 1 objectInit ∈ wG := wG_in 47 (by decide +kernel) (by decide +kernel)
theorem lkm_X7_28 : Cond.methodLink RX7 28 yX0_init ∈ wG := wG_in 177 (by decide +kernel) (by decide +kernel)
theorem lkm_X7_50 : Cond.methodLink RX7 50 yX7_setsOfOne ∈ wG := wG_in 227 (by decide +kernel) (by decide +kernel)
theorem lkm_X7_58 : Cond.methodLink RX7 58 yX7_setsOfTwo ∈ wG := wG_in 230 (by decide +kernel) (by decide +kernel)
theorem lkm_X7_64 : Cond.methodLink RX7 64 yX4_reset ∈ wG := wG_in 233 (by decide +kernel) (by decide +kernel)
theorem lkm_X7_83 : Cond.methodLink RX7 83 yX6_add ∈ wG := wG_in 562 (by decide +kernel) (by decide +kernel)
theorem lkm_X7_87 : Cond.methodLink RX7 87 yX6_readHead ∈ wG := wG_in 281 (by decide +kernel) (by decide +kernel)
theorem lkm_X7_90 : Cond.methodLink RX7 90 yX6_hasMore ∈ wG := wG_in 395 (by decide +kernel) (by decide +kernel)
theorem lkm_X7_94 : Cond.methodLink RX7 94 yX6_readCommand ∈ wG := wG_in 396 (by decide +kernel) (by decide +kernel)
theorem lkm_X7_104 : Cond.methodLink RX7 104 yX7_errorPosition ∈ wG := wG_in 573 (by decide +kernel) (by decide +kernel)
theorem lkm_X7_110 : Cond.methodLink RX7 110 yX0_clear ∈ wG := wG_in 575 (by decide +kernel) (by decide +kernel)
theorem lkm_X7_122 : Cond.methodLink RX7 122 yX4_layOut ∈ wG := wG_in 579 (by decide +kernel) (by decide +kernel)
theorem lkm_X7_126 : Cond.methodLink RX7 126 yX7_obeyText ∈ wG := wG_in 580 (by decide +kernel) (by decide +kernel)
theorem lkm_X7_138 : Cond.methodLink RX7 138 yX4_tryArms ∈ wG := wG_in 584 (by decide +kernel) (by decide +kernel)
theorem lkm_X7_142 : Cond.methodLink RX7 142 yX4_tryWeighing ∈ wG := wG_in 591 (by decide +kernel) (by decide +kernel)
theorem lkm_X7_146 : Cond.methodLink RX7 146 yX4_allCases ∈ wG := wG_in 624 (by decide +kernel) (by decide +kernel)
theorem lkm_X7_153 : Cond.methodLink RX7 153 yX3_count ∈ wG := wG_in 463 (by decide +kernel) (by decide +kernel)
theorem lkm_X7_167 : Cond.methodLink RX7 167 yX4_idleWeighings ∈ wG := wG_in 631 (by decide +kernel) (by decide +kernel)
theorem lkm_X7_178 : Cond.methodLink RX7 178 yX4_hasCoin ∈ wG := wG_in 649 (by decide +kernel) (by decide +kernel)
theorem lkm_X7_187 : Cond.methodLink RX7 187 yX3_coinMayBe ∈ wG := wG_in 669 (by decide +kernel) (by decide +kernel)
theorem lkm_X7_191 : Cond.methodLink RX7 191 yX3_pansMayBe ∈ wG := wG_in 412 (by decide +kernel) (by decide +kernel)
theorem lkm_X7_196 : Cond.methodLink RX7 196 yX3_has ∈ wG := wG_in 681 (by decide +kernel) (by decide +kernel)
theorem lkm_X7_203 : Cond.methodLink RX7 203 yX4_kept ∈ wG := wG_in 694 (by decide +kernel) (by decide +kernel)
theorem lkm_X7_209 : Cond.methodLink RX7 209 yX7_casesOf ∈ wG := wG_in 703 (by decide +kernel) (by decide +kernel)
theorem lkm_X7_212 : Cond.methodLink RX7 212 yX0_remember ∈ wG := wG_in 704 (by decide +kernel) (by decide +kernel)
theorem lkm_X7_216 : Cond.methodLink RX7 216 yX7_isArm ∈ wG := wG_in 728 (by decide +kernel) (by decide +kernel)
theorem lkm_X7_221 : Cond.methodLink RX7 221 yX7_refuseBadSets ∈ wG := wG_in 737 (by decide +kernel) (by decide +kernel)
theorem lkm_X7_224 : Cond.methodLink RX7 224 yX4_isFull ∈ wG := wG_in 743 (by decide +kernel) (by decide +kernel)
theorem lkm_X7_229 : Cond.methodLink RX7 229 yX4_lastOutcome ∈ wG := wG_in 745 (by decide +kernel) (by decide +kernel)
theorem lkm_X7_232 : Cond.methodLink RX7 232 yX4_blameCoin ∈ wG := wG_in 756 (by decide +kernel) (by decide +kernel)
theorem lkm_X7_236 : Cond.methodLink RX7 236 yX7_isPan ∈ wG := wG_in 771 (by decide +kernel) (by decide +kernel)
theorem lkm_X7_241 : Cond.methodLink RX7 241 yX4_blamePan ∈ wG := wG_in 775 (by decide +kernel) (by decide +kernel)
theorem lkm_X7_246 : Cond.methodLink RX7 246 yX4_tryForgetting ∈ wG := wG_in 787 (by decide +kernel) (by decide +kernel)
theorem lkm_X7_253 : Cond.methodLink RX7 253 yX0_takeBack ∈ wG := wG_in 799 (by decide +kernel) (by decide +kernel)
theorem lkm_X7_258 : Cond.methodLink RX7 258 yX4_foresee ∈ wG := wG_in 420 (by decide +kernel) (by decide +kernel)
theorem lkm_X7_262 : Cond.methodLink RX7 262 yX5_of ∈ wG := wG_in 811 (by decide +kernel) (by decide +kernel)
theorem lkm_X7_269 : Cond.methodLink RX7 269 yX5_worst ∈ wG := wG_in 824 (by decide +kernel) (by decide +kernel)
theorem lkm_X7_272 : Cond.methodLink RX7 272 yX5_unlikePairs ∈ wG := wG_in 455 (by decide +kernel) (by decide +kernel)
theorem lkm_X7_275 : Cond.methodLink RX7 275 yX7_weighingsFor ∈ wG := wG_in 467 (by decide +kernel) (by decide +kernel)
theorem lkm_X7_278 : Cond.methodLink RX7 278 yX4_foreseeWith ∈ wG := wG_in 836 (by decide +kernel) (by decide +kernel)
theorem lkm_X7_284 : Cond.methodLink RX7 284 yX7_withoutGroups ∈ wG := wG_in 845 (by decide +kernel) (by decide +kernel)
theorem lkm_X7_290 : Cond.methodLink RX7 290 yX4_copyFrom ∈ wG := wG_in 850 (by decide +kernel) (by decide +kernel)
theorem lkm_X7_295 : Cond.methodLink RX7 295 yX7_obeyGroup ∈ wG := wG_in 851 (by decide +kernel) (by decide +kernel)
theorem lkm_X7_304 : Cond.methodLink RX7 304 yX7_takeTurn ∈ wG := wG_in 869 (by decide +kernel) (by decide +kernel)
theorem lkm_X7_315 : Cond.methodLink RX7 315 yX4_canWeigh ∈ wG := wG_in 741 (by decide +kernel) (by decide +kernel)
theorem lkm_X7_320 : Cond.methodLink RX7 320 yX7_tryCoins ∈ wG := wG_in 855 (by decide +kernel) (by decide +kernel)
theorem lkm_X0_3 : Cond.methodLink RX0 3 objectInit ∈ wG := wG_in 180 (by decide +kernel) (by decide +kernel)
theorem lkm_X0_25 : Cond.methodLink RX0 25 yX0_placeAt ∈ wG := wG_in 708 (by decide +kernel) (by decide +kernel)
theorem lkm_X0_29 : Cond.methodLink RX0 29 yX4_copyFrom ∈ wG := wG_in 712 (by decide +kernel) (by decide +kernel)
theorem lkm_X0_33 : Cond.methodLink RX0 33 Lib.Math.min.name ∈ wG := wG_in 720 (by decide +kernel) (by decide +kernel)
theorem lkm_X1_3 : Cond.methodLink RX1 3 objectInit ∈ wG := wG_in 115 (by decide +kernel) (by decide +kernel)
theorem lkm_X1_24 : Cond.methodLink RX1 24 yJ6_bitCount_0f7a4 ∈ wG := wG_in 432 (by decide +kernel) (by decide +kernel)
theorem lkm_X1_36 : Cond.methodLink RX1 36 yX1_outcome ∈ wG := wG_in 607 (by decide +kernel) (by decide +kernel)
theorem lkm_X2_1 : Cond.methodLink RX2 1 objectInit ∈ wG := wG_in 200 (by decide +kernel) (by decide +kernel)
theorem lkm_X3_3 : Cond.methodLink RX3 3 objectInit ∈ wG := wG_in 104 (by decide +kernel) (by decide +kernel)
theorem lkm_X3_15 : Cond.methodLink RX3 15 yJ6_bitCount_0f7a4 ∈ wG := wG_in 450 (by decide +kernel) (by decide +kernel)
theorem lkm_X3_21 : Cond.methodLink RX3 21 yX1_outcome ∈ wG := wG_in 446 (by decide +kernel) (by decide +kernel)
theorem lkm_X3_34 : Cond.methodLink RX3 34 yX5_clear ∈ wG := wG_in 442 (by decide +kernel) (by decide +kernel)
theorem lkm_X3_39 : Cond.methodLink RX3 39 yX5_add ∈ wG := wG_in 451 (by decide +kernel) (by decide +kernel)
theorem lkm_X4_3 : Cond.methodLink RX4 3 objectInit ∈ wG := wG_in 98 (by decide +kernel) (by decide +kernel)
theorem lkm_X4_29 : Cond.methodLink RX4 29 yX4_layOut ∈ wG := wG_in 237 (by decide +kernel) (by decide +kernel)
theorem lkm_X4_55 : Cond.methodLink RX4 55 yX3_copyFrom ∈ wG := wG_in 716 (by decide +kernel) (by decide +kernel)
theorem lkm_X4_59 : Cond.methodLink RX4 59 yX3_suspectAll ∈ wG := wG_in 241 (by decide +kernel) (by decide +kernel)
theorem lkm_X4_71 : Cond.methodLink RX4 71 yX4_canWeigh ∈ wG := wG_in 595 (by decide +kernel) (by decide +kernel)
theorem lkm_X4_75 : Cond.methodLink RX4 75 yX4_isFull ∈ wG := wG_in 599 (by decide +kernel) (by decide +kernel)
theorem lkm_X4_79 : Cond.methodLink RX4 79 yX1_set ∈ wG := wG_in 428 (by decide +kernel) (by decide +kernel)
theorem lkm_X4_83 : Cond.methodLink RX4 83 yX1_outcomeInCase ∈ wG := wG_in 603 (by decide +kernel) (by decide +kernel)
theorem lkm_X4_86 : Cond.methodLink RX4 86 yX3_keep ∈ wG := wG_in 608 (by decide +kernel) (by decide +kernel)
theorem lkm_X4_90 : Cond.methodLink RX4 90 yX4_write ∈ wG := wG_in 612 (by decide +kernel) (by decide +kernel)
theorem lkm_X4_94 : Cond.methodLink RX4 94 yX3_count ∈ wG := wG_in 616 (by decide +kernel) (by decide +kernel)
theorem lkm_X4_98 : Cond.methodLink RX4 98 yX4_kept ∈ wG := wG_in 636 (by decide +kernel) (by decide +kernel)
theorem lkm_X4_102 : Cond.methodLink RX4 102 yX4_noteBlame ∈ wG := wG_in 760 (by decide +kernel) (by decide +kernel)
theorem lkm_X4_106 : Cond.methodLink RX4 106 yX4_allCases ∈ wG := wG_in 635 (by decide +kernel) (by decide +kernel)
theorem lkm_X4_109 : Cond.methodLink RX4 109 yX4_foreseeWith ∈ wG := wG_in 424 (by decide +kernel) (by decide +kernel)
theorem lkm_X4_113 : Cond.methodLink RX4 113 yX3_sort ∈ wG := wG_in 438 (by decide +kernel) (by decide +kernel)
theorem lkm_X5_1 : Cond.methodLink RX5 1 objectInit ∈ wG := wG_in 216 (by decide +kernel) (by decide +kernel)
theorem lkm_X5_19 : Cond.methodLink RX5 19 Lib.Math.max.name ∈ wG := wG_in 828 (by decide +kernel) (by decide +kernel)
theorem lkm_X6_3 : Cond.methodLink RX6 3 objectInit ∈ wG := wG_in 55 (by decide +kernel) (by decide +kernel)
theorem lkm_X6_28 : Cond.methodLink RX6 28 yX6_readOneOf ∈ wG := wG_in 286 (by decide +kernel) (by decide +kernel)
theorem lkm_X6_32 : Cond.methodLink RX6 32 yX6_readNumber ∈ wG := wG_in 384 (by decide +kernel) (by decide +kernel)
theorem lkm_X6_41 : Cond.methodLink RX6 41 yX6_readDigit ∈ wG := wG_in 388 (by decide +kernel) (by decide +kernel)
theorem lkm_X6_52 : Cond.methodLink RX6 52 yX6_readCoins ∈ wG := wG_in 401 (by decide +kernel) (by decide +kernel)
theorem lkm_X6_66 : Cond.methodLink RX6 66 yX6_hasMore ∈ wG := wG_in 294 (by decide +kernel) (by decide +kernel)
theorem lkm_X6_70 : Cond.methodLink RX6 70 yX6_nextSign ∈ wG := wG_in 290 (by decide +kernel) (by decide +kernel)
theorem lkm_X6_73 : Cond.methodLink RX6 73 yJ0_indexOf_0f7a4 ∈ wG := wG_in 298 (by decide +kernel) (by decide +kernel)
theorem lkm_X6_79 : Cond.methodLink RX6 79 Lib.Math.max.name ∈ wG := wG_in 392 (by decide +kernel) (by decide +kernel)
theorem lkm_X6_84 : Cond.methodLink RX6 84 Lib.Math.min.name ∈ wG := wG_in 393 (by decide +kernel) (by decide +kernel)
theorem lkm_L_7 : Cond.methodLink RL 7 yX7_append ∈ wG := wG_in 475 (by decide +kernel) (by decide +kernel)
theorem lkm_L_17 : Cond.methodLink RL 17 yX7_load ∈ wG := wG_in 569 (by decide +kernel) (by decide +kernel)
theorem lkm_L_21 : Cond.methodLink RL 21 yX7_about ∈ wG := wG_in 620 (by decide +kernel) (by decide +kernel)
theorem lkm_L_24 : Cond.methodLink RL 24 yX7_coin ∈ wG := wG_in 645 (by decide +kernel) (by decide +kernel)
theorem lkm_L_29 : Cond.methodLink RL 29 yX7_isLeft ∈ wG := wG_in 676 (by decide +kernel) (by decide +kernel)
theorem lkm_L_32 : Cond.methodLink RL 32 yX7_weighing ∈ wG := wG_in 688 (by decide +kernel) (by decide +kernel)
theorem lkm_L_36 : Cond.methodLink RL 36 yX7_hide ∈ wG := wG_in 698 (by decide +kernel) (by decide +kernel)
theorem lkm_L_39 : Cond.methodLink RL 39 yX7_arms ∈ wG := wG_in 724 (by decide +kernel) (by decide +kernel)
theorem lkm_L_42 : Cond.methodLink RL 42 yX7_weigh ∈ wG := wG_in 733 (by decide +kernel) (by decide +kernel)
theorem lkm_L_45 : Cond.methodLink RL 45 yX7_accuse ∈ wG := wG_in 752 (by decide +kernel) (by decide +kernel)
theorem lkm_L_49 : Cond.methodLink RL 49 yX7_accusePan ∈ wG := wG_in 767 (by decide +kernel) (by decide +kernel)
theorem lkm_L_52 : Cond.methodLink RL 52 yX7_forget ∈ wG := wG_in 782 (by decide +kernel) (by decide +kernel)
theorem lkm_L_55 : Cond.methodLink RL 55 yX7_undo ∈ wG := wG_in 794 (by decide +kernel) (by decide +kernel)
theorem lkm_L_58 : Cond.methodLink RL 58 yX7_leaves ∈ wG := wG_in 806 (by decide +kernel) (by decide +kernel)
theorem lkm_L_62 : Cond.methodLink RL 62 yX7_best ∈ wG := wG_in 818 (by decide +kernel) (by decide +kernel)
theorem lkm_L_65 : Cond.methodLink RL 65 yX7_bestArms ∈ wG := wG_in 832 (by decide +kernel) (by decide +kernel)
theorem lkm_L_68 : Cond.methodLink RL 68 yX7_runScript ∈ wG := wG_in 840 (by decide +kernel) (by decide +kernel)
theorem lkm_L_72 : Cond.methodLink RL 72 yX7_simulate ∈ wG := wG_in 862 (by decide +kernel) (by decide +kernel)
theorem lkm_L_76 : Cond.methodLink RL 76 yX7_save ∈ wG := wG_in 876 (by decide +kernel) (by decide +kernel)
theorem lkm_L_79 : Cond.methodLink RL 79 yX7_restore ∈ wG := wG_in 884 (by decide +kernel) (by decide +kernel)
theorem lkm_L_82 : Cond.methodLink RL 82 yX7_init ∈ wG := wG_in 44 (by decide +kernel) (by decide +kernel)
theorem lkm_L_85 : Cond.methodLink RL 85 yX8_init ∈ wG := wG_in 891 (by decide +kernel) (by decide +kernel)
theorem lkm_L_86 : Cond.methodLink RL 86 yL_append ∈ wG := wG_in 470 (by decide +kernel) (by decide +kernel)
theorem lkm_L_91 : Cond.methodLink RL 91 yX8_append ∈ wG := wG_in 946 (by decide +kernel) (by decide +kernel)
theorem lkm_L_92 : Cond.methodLink RL 92 yX8_thrown ∈ wG := wG_in 942 (by decide +kernel) (by decide +kernel)
theorem lkm_L_95 : Cond.methodLink RL 95 yX7_clearText ∈ wG := wG_in 273 (by decide +kernel) (by decide +kernel)
theorem lkm_L_98 : Cond.methodLink RL 98 yX8_clearText ∈ wG := wG_in 958 (by decide +kernel) (by decide +kernel)
theorem lkm_L_99 : Cond.methodLink RL 99 yX7_errorPosition ∈ wG := wG_in 277 (by decide +kernel) (by decide +kernel)
theorem lkm_L_102 : Cond.methodLink RL 102 yX8_errorPosition ∈ wG := wG_in 962 (by decide +kernel) (by decide +kernel)
theorem lkm_L_103 : Cond.methodLink RL 103 yL_load ∈ wG := wG_in 566 (by decide +kernel) (by decide +kernel)
theorem lkm_L_106 : Cond.methodLink RL 106 yX8_load ∈ wG := wG_in 1029 (by decide +kernel) (by decide +kernel)
theorem lkm_L_107 : Cond.methodLink RL 107 yL_about ∈ wG := wG_in 617 (by decide +kernel) (by decide +kernel)
theorem lkm_L_109 : Cond.methodLink RL 109 yX8_about ∈ wG := wG_in 1036 (by decide +kernel) (by decide +kernel)
theorem lkm_L_110 : Cond.methodLink RL 110 yL_coin ∈ wG := wG_in 641 (by decide +kernel) (by decide +kernel)
theorem lkm_L_112 : Cond.methodLink RL 112 yX8_coin ∈ wG := wG_in 1050 (by decide +kernel) (by decide +kernel)
theorem lkm_L_113 : Cond.methodLink RL 113 yX7_pans ∈ wG := wG_in 408 (by decide +kernel) (by decide +kernel)
theorem lkm_L_116 : Cond.methodLink RL 116 yX8_pans ∈ wG := wG_in 1060 (by decide +kernel) (by decide +kernel)
theorem lkm_L_117 : Cond.methodLink RL 117 yL_isLeft ∈ wG := wG_in 673 (by decide +kernel) (by decide +kernel)
theorem lkm_L_119 : Cond.methodLink RL 119 yX8_isLeft ∈ wG := wG_in 1067 (by decide +kernel) (by decide +kernel)
theorem lkm_L_120 : Cond.methodLink RL 120 yL_weighing ∈ wG := wG_in 685 (by decide +kernel) (by decide +kernel)
theorem lkm_L_123 : Cond.methodLink RL 123 yX8_weighing ∈ wG := wG_in 1071 (by decide +kernel) (by decide +kernel)
theorem lkm_L_124 : Cond.methodLink RL 124 yL_hide ∈ wG := wG_in 695 (by decide +kernel) (by decide +kernel)
theorem lkm_L_126 : Cond.methodLink RL 126 yX8_hide ∈ wG := wG_in 1076 (by decide +kernel) (by decide +kernel)
theorem lkm_L_127 : Cond.methodLink RL 127 yL_arms ∈ wG := wG_in 721 (by decide +kernel) (by decide +kernel)
theorem lkm_L_129 : Cond.methodLink RL 129 yX8_arms ∈ wG := wG_in 1089 (by decide +kernel) (by decide +kernel)
theorem lkm_L_130 : Cond.methodLink RL 130 yL_weigh ∈ wG := wG_in 730 (by decide +kernel) (by decide +kernel)
theorem lkm_L_132 : Cond.methodLink RL 132 yX8_weigh ∈ wG := wG_in 1097 (by decide +kernel) (by decide +kernel)
theorem lkm_L_133 : Cond.methodLink RL 133 yL_accuse ∈ wG := wG_in 749 (by decide +kernel) (by decide +kernel)
theorem lkm_L_136 : Cond.methodLink RL 136 yX8_accuse ∈ wG := wG_in 1101 (by decide +kernel) (by decide +kernel)
theorem lkm_L_137 : Cond.methodLink RL 137 yL_accusePan ∈ wG := wG_in 764 (by decide +kernel) (by decide +kernel)
theorem lkm_L_139 : Cond.methodLink RL 139 yX8_accusePan ∈ wG := wG_in 1111 (by decide +kernel) (by decide +kernel)
theorem lkm_L_140 : Cond.methodLink RL 140 yL_forget ∈ wG := wG_in 779 (by decide +kernel) (by decide +kernel)
theorem lkm_L_142 : Cond.methodLink RL 142 yX8_forget ∈ wG := wG_in 1116 (by decide +kernel) (by decide +kernel)
theorem lkm_L_143 : Cond.methodLink RL 143 yL_undo ∈ wG := wG_in 791 (by decide +kernel) (by decide +kernel)
theorem lkm_L_145 : Cond.methodLink RL 145 yX8_undo ∈ wG := wG_in 1123 (by decide +kernel) (by decide +kernel)
theorem lkm_L_146 : Cond.methodLink RL 146 yL_leaves ∈ wG := wG_in 803 (by decide +kernel) (by decide +kernel)
theorem lkm_L_149 : Cond.methodLink RL 149 yX8_leaves ∈ wG := wG_in 1127 (by decide +kernel) (by decide +kernel)
theorem lkm_L_150 : Cond.methodLink RL 150 yL_best ∈ wG := wG_in 815 (by decide +kernel) (by decide +kernel)
theorem lkm_L_152 : Cond.methodLink RL 152 yX8_best ∈ wG := wG_in 1139 (by decide +kernel) (by decide +kernel)
theorem lkm_L_153 : Cond.methodLink RL 153 yX7_sharpest ∈ wG := wG_in 416 (by decide +kernel) (by decide +kernel)
theorem lkm_L_156 : Cond.methodLink RL 156 yX8_sharpest ∈ wG := wG_in 1143 (by decide +kernel) (by decide +kernel)
theorem lkm_L_157 : Cond.methodLink RL 157 yX7_needs ∈ wG := wG_in 459 (by decide +kernel) (by decide +kernel)
theorem lkm_L_160 : Cond.methodLink RL 160 yX8_needs ∈ wG := wG_in 1147 (by decide +kernel) (by decide +kernel)
theorem lkm_L_161 : Cond.methodLink RL 161 yL_bestArms ∈ wG := wG_in 829 (by decide +kernel) (by decide +kernel)
theorem lkm_L_163 : Cond.methodLink RL 163 yX8_bestArms ∈ wG := wG_in 1154 (by decide +kernel) (by decide +kernel)
theorem lkm_L_166 : Cond.methodLink RL 166 yL_runScript ∈ wG := wG_in 837 (by decide +kernel) (by decide +kernel)
theorem lkm_L_169 : Cond.methodLink RL 169 yX8_runScript ∈ wG := wG_in 1158 (by decide +kernel) (by decide +kernel)
theorem lkm_L_170 : Cond.methodLink RL 170 yL_simulate ∈ wG := wG_in 859 (by decide +kernel) (by decide +kernel)
theorem lkm_L_173 : Cond.methodLink RL 173 yX8_simulate ∈ wG := wG_in 1171 (by decide +kernel) (by decide +kernel)
theorem lkm_L_174 : Cond.methodLink RL 174 yL_save ∈ wG := wG_in 873 (by decide +kernel) (by decide +kernel)
theorem lkm_L_176 : Cond.methodLink RL 176 yX8_save ∈ wG := wG_in 1181 (by decide +kernel) (by decide +kernel)
theorem lkm_L_177 : Cond.methodLink RL 177 yL_restore ∈ wG := wG_in 881 (by decide +kernel) (by decide +kernel)
theorem lkm_L_179 : Cond.methodLink RL 179 yX8_restore ∈ wG := wG_in 1185 (by decide +kernel) (by decide +kernel)
theorem lkm_X8_1 : Cond.methodLink RX8 1 objectInit ∈ wG := wG_in 894 (by decide +kernel) (by decide +kernel)
theorem lkm_X8_35 : Cond.methodLink RX8 35 yX8_clear ∈ wG := wG_in 895 (by decide +kernel) (by decide +kernel)
theorem lkm_X8_43 : Cond.methodLink RX8 43 yX8_in ∈ wG := wG_in 951 (by decide +kernel) (by decide +kernel)
theorem lkm_X8_53 : Cond.methodLink RX8 53 yX8_isSet ∈ wG := wG_in 1004 (by decide +kernel) (by decide +kernel)
theorem lkm_X8_57 : Cond.methodLink RX8 57 yX8_bits ∈ wG := wG_in 1019 (by decide +kernel) (by decide +kernel)
theorem lkm_X8_61 : Cond.methodLink RX8 61 yX8_weight ∈ wG := wG_in 1016 (by decide +kernel) (by decide +kernel)
theorem lkm_X8_65 : Cond.methodLink RX8 65 yX8_at ∈ wG := wG_in 1010 (by decide +kernel) (by decide +kernel)
theorem lkm_X8_68 : Cond.methodLink RX8 68 yX8_outcome ∈ wG := wG_in 1013 (by decide +kernel) (by decide +kernel)
theorem lkm_X8_72 : Cond.methodLink RX8 72 yX8_allOf ∈ wG := wG_in 986 (by decide +kernel) (by decide +kernel)
theorem lkm_X8_75 : Cond.methodLink RX8 75 yX8_fits ∈ wG := wG_in 1047 (by decide +kernel) (by decide +kernel)
theorem lkm_X8_79 : Cond.methodLink RX8 79 yX8_many ∈ wG := wG_in 1044 (by decide +kernel) (by decide +kernel)
theorem lkm_X8_86 : Cond.methodLink RX8 86 yX8_leftOf ∈ wG := wG_in 1041 (by decide +kernel) (by decide +kernel)
theorem lkm_X8_90 : Cond.methodLink RX8 90 yX8_isWeighing ∈ wG := wG_in 1001 (by decide +kernel) (by decide +kernel)
theorem lkm_X8_93 : Cond.methodLink RX8 93 yX8_told ∈ wG := wG_in 1108 (by decide +kernel) (by decide +kernel)
theorem lkm_X8_102 : Cond.methodLink RX8 102 yX8_refused ∈ wG := wG_in 954 (by decide +kernel) (by decide +kernel)
theorem lkm_X8_109 : Cond.methodLink RX8 109 yX8_sign ∈ wG := wG_in 970 (by decide +kernel) (by decide +kernel)
theorem lkm_X8_120 : Cond.methodLink RX8 120 yX8_letters ∈ wG := wG_in 993 (by decide +kernel) (by decide +kernel)
theorem lkm_X8_123 : Cond.methodLink RX8 123 yX8_canWeigh ∈ wG := wG_in 998 (by decide +kernel) (by decide +kernel)
theorem lkm_X8_126 : Cond.methodLink RX8 126 yX8_weighOn ∈ wG := wG_in 1007 (by decide +kernel) (by decide +kernel)
theorem lkm_X8_130 : Cond.methodLink RX8 130 yX8_done ∈ wG := wG_in 1022 (by decide +kernel) (by decide +kernel)
theorem lkm_X8_134 : Cond.methodLink RX8 134 yX8_figures ∈ wG := wG_in 978 (by decide +kernel) (by decide +kernel)
theorem lkm_X8_138 : Cond.methodLink RX8 138 yX8_armsOn ∈ wG := wG_in 1026 (by decide +kernel) (by decide +kernel)
theorem lkm_X8_141 : Cond.methodLink RX8 141 yX8_hideOn ∈ wG := wG_in 983 (by decide +kernel) (by decide +kernel)
theorem lkm_X8_144 : Cond.methodLink RX8 144 yX8_readCase ∈ wG := wG_in 974 (by decide +kernel) (by decide +kernel)
theorem lkm_X8_148 : Cond.methodLink RX8 148 yX8_readCommand ∈ wG := wG_in 989 (by decide +kernel) (by decide +kernel)
theorem lkm_X8_151 : Cond.methodLink RX8 151 yX8_readText ∈ wG := wG_in 966 (by decide +kernel) (by decide +kernel)
theorem lkm_X8_154 : Cond.methodLink RX8 154 yX8_copyState ∈ wG := wG_in 1033 (by decide +kernel) (by decide +kernel)
theorem lkm_X8_163 : Cond.methodLink RX8 163 yX8_isCoin ∈ wG := wG_in 1054 (by decide +kernel) (by decide +kernel)
theorem lkm_X8_166 : Cond.methodLink RX8 166 yX8_coinOf ∈ wG := wG_in 1057 (by decide +kernel) (by decide +kernel)
theorem lkm_X8_169 : Cond.methodLink RX8 169 yX8_pansOf ∈ wG := wG_in 1064 (by decide +kernel) (by decide +kernel)
theorem lkm_X8_174 : Cond.methodLink RX8 174 yX8_isCoins ∈ wG := wG_in 1080 (by decide +kernel) (by decide +kernel)
theorem lkm_X8_177 : Cond.methodLink RX8 177 yX8_remember ∈ wG := wG_in 1085 (by decide +kernel) (by decide +kernel)
theorem lkm_X8_180 : Cond.methodLink RX8 180 yX8_isArms ∈ wG := wG_in 1093 (by decide +kernel) (by decide +kernel)
theorem lkm_X8_184 : Cond.methodLink RX8 184 yX8_accuseOn ∈ wG := wG_in 1105 (by decide +kernel) (by decide +kernel)
theorem lkm_X8_190 : Cond.methodLink RX8 190 yX8_forgetOn ∈ wG := wG_in 1120 (by decide +kernel) (by decide +kernel)
theorem lkm_X8_193 : Cond.methodLink RX8 193 yX8_gather ∈ wG := wG_in 1131 (by decide +kernel) (by decide +kernel)
theorem lkm_X8_196 : Cond.methodLink RX8 196 yX8_worst ∈ wG := wG_in 1135 (by decide +kernel) (by decide +kernel)
theorem lkm_X8_199 : Cond.methodLink RX8 199 yX8_needsOf ∈ wG := wG_in 1151 (by decide +kernel) (by decide +kernel)
theorem lkm_X8_202 : Cond.methodLink RX8 202 yX8_weighs ∈ wG := wG_in 1167 (by decide +kernel) (by decide +kernel)
theorem lkm_X8_207 : Cond.methodLink RX8 207 yX8_command ∈ wG := wG_in 1163 (by decide +kernel) (by decide +kernel)
theorem lkm_X8_216 : Cond.methodLink RX8 216 yX8_turn ∈ wG := wG_in 1178 (by decide +kernel) (by decide +kernel)
theorem lkm_J0_335 : Cond.methodLink RJ0 335 yJ0_coder_7d493 ∈ wG := wG_in 316 (by decide +kernel) (by decide +kernel)
theorem lkm_J0_492 : Cond.methodLink RJ0 492 yJ0_isLatin1_aae02 ∈ wG := wG_in 306 (by decide +kernel) (by decide +kernel)
theorem lkm_J0_505 : Cond.methodLink RJ0 505 yJ0_length_8abf5 ∈ wG := wG_in 312 (by decide +kernel) (by decide +kernel)
theorem lkm_J0_633 : Cond.methodLink RJ0 633 yJ0_indexOf_7cf53 ∈ wG := wG_in 302 (by decide +kernel) (by decide +kernel)
theorem lkm_J0_637 : Cond.methodLink RJ0 637 yJ1_indexOf_4cfef ∈ wG := wG_in 320 (by decide +kernel) (by decide +kernel)
theorem lkm_J0_640 : Cond.methodLink RJ0 640 yJ2_indexOf_4cfef ∈ wG := wG_in 335 (by decide +kernel) (by decide +kernel)
theorem lkm_J0_1062 : Cond.methodLink RJ0 1062 yJ3_checkFromToIndex_8c36e ∈ wG := wG_in 355 (by decide +kernel) (by decide +kernel)
theorem lkm_J1_38 : Cond.methodLink RJ1 38 Lib.Math.min.name ∈ wG := wG_in 329 (by decide +kernel) (by decide +kernel)
theorem lkm_J1_88 : Cond.methodLink RJ1 88 yJ1_canEncode_9a6ad ∈ wG := wG_in 323 (by decide +kernel) (by decide +kernel)
theorem lkm_J1_92 : Cond.methodLink RJ1 92 Lib.Math.max.name ∈ wG := wG_in 326 (by decide +kernel) (by decide +kernel)
theorem lkm_J1_95 : Cond.methodLink RJ1 95 yJ1_indexOfChar_4cfef ∈ wG := wG_in 332 (by decide +kernel) (by decide +kernel)
theorem lkm_J2_48 : Cond.methodLink RJ2 48 yJ2_length_9d52b ∈ wG := wG_in 347 (by decide +kernel) (by decide +kernel)
theorem lkm_J2_71 : Cond.methodLink RJ2 71 yJ2_getChar_3b067 ∈ wG := wG_in 361 (by decide +kernel) (by decide +kernel)
theorem lkm_J2_96 : Cond.methodLink RJ2 96 yJ2_checkBoundsBeginEnd_d044e ∈ wG := wG_in 344 (by decide +kernel) (by decide +kernel)
theorem lkm_J2_157 : Cond.methodLink RJ2 157 yJ11_highSurrogate_5068e ∈ wG := wG_in 376 (by decide +kernel) (by decide +kernel)
theorem lkm_J2_161 : Cond.methodLink RJ2 161 yJ11_lowSurrogate_5068e ∈ wG := wG_in 380 (by decide +kernel) (by decide +kernel)
theorem lkm_J2_164 : Cond.methodLink RJ2 164 yJ11_isValidCodePoint_9a6ad ∈ wG := wG_in 373 (by decide +kernel) (by decide +kernel)
theorem lkm_J2_183 : Cond.methodLink RJ2 183 Lib.Math.min.name ∈ wG := wG_in 339 (by decide +kernel) (by decide +kernel)
theorem lkm_J2_224 : Cond.methodLink RJ2 224 Lib.Math.max.name ∈ wG := wG_in 338 (by decide +kernel) (by decide +kernel)
theorem lkm_J2_228 : Cond.methodLink RJ2 228 yJ2_indexOfChar_4cfef ∈ wG := wG_in 341 (by decide +kernel) (by decide +kernel)
theorem lkm_J2_232 : Cond.methodLink RJ2 232 yJ2_indexOfSupplementary_4cfef ∈ wG := wG_in 370 (by decide +kernel) (by decide +kernel)
theorem lkm_J2_241 : Cond.methodLink RJ2 241 yJ0_checkBoundsBeginEnd_23922 ∈ wG := wG_in 350 (by decide +kernel) (by decide +kernel)
theorem lkm_J2_244 : Cond.methodLink RJ2 244 yJ2_indexOfCharUnsafe_4cfef ∈ wG := wG_in 358 (by decide +kernel) (by decide +kernel)
theorem lkn_X7_9 : (RX7, 9, yX6_init, "FalsePan") ∈ neTab := List.mem_of_getElem? (i := 0) rfl
theorem lkn_X7_18 : (RX7, 18, yX4_init, "FalsePan") ∈ neTab := List.mem_of_getElem? (i := 1) rfl
theorem lkn_X4_17 : (RX4, 17, yX3_init, "FalsePan") ∈ neTab := List.mem_of_getElem? (i := 2) rfl
theorem lkn_X4_24 : (RX4, 24, yX1_init, "FalsePan") ∈ neTab := List.mem_of_getElem? (i := 3) rfl
theorem lkn_X0_17 : (RX0, 17, yX4_init, "FalsePan") ∈ neTab := List.mem_of_getElem? (i := 4) rfl
theorem lkn_X7_35 : (RX7, 35, yX2_init, "FalsePan") ∈ neTab := List.mem_of_getElem? (i := 5) rfl
theorem lkn_X2_9 : (RX2, 9, yX4_init, "FalsePan") ∈ neTab := List.mem_of_getElem? (i := 6) rfl
theorem lkn_X7_45 : (RX7, 45, yX5_init, "FalsePan") ∈ neTab := List.mem_of_getElem? (i := 7) rfl
theorem lkn_X4_67 : (RX4, 67, yX7_isArm, "FalsePan") ∈ neTab := List.mem_of_getElem? (i := 8) rfl
theorem lkn_X4_63 : (RX4, 63, yX7_casesOf, "FalsePan") ∈ neTab := List.mem_of_getElem? (i := 9) rfl
theorem lkc_J11_76 : Cond.constant RJ11 76 (56320) ∈ wG := wG_in 383 (by decide +kernel) (by decide +kernel)
theorem lkc_J11_110 : Cond.constant RJ11 110 (55232) ∈ wG := wG_in 379 (by decide +kernel) (by decide +kernel)
theorem lkc_J6_265 : Cond.constant RJ6 265 (1431655765) ∈ wG := wG_in 435 (by decide +kernel) (by decide +kernel)
theorem lkc_J6_266 : Cond.constant RJ6 266 (858993459) ∈ wG := wG_in 436 (by decide +kernel) (by decide +kernel)
theorem lkc_J6_267 : Cond.constant RJ6 267 (252645135) ∈ wG := wG_in 437 (by decide +kernel) (by decide +kernel)
theorem lkc_J2_227 : Cond.constant RJ2 227 (65536) ∈ wG := wG_in 340 (by decide +kernel) (by decide +kernel)
theorem lkl_X7_293 : Cond.constantLong RX7 293 (100000) ∈ wG := wG_in 848 (by decide +kernel) (by decide +kernel)
theorem lkl_X7_300 : Cond.constantLong RX7 300 (6364136223846793005) ∈ wG := wG_in 867 (by decide +kernel) (by decide +kernel)
theorem lkl_X7_302 : Cond.constantLong RX7 302 (1442695040888963407) ∈ wG := wG_in 868 (by decide +kernel) (by decide +kernel)
theorem lkl_L_164 : Cond.constantLong RL 164 (4294967295) ∈ wG := wG_in 1189 (by decide +kernel) (by decide +kernel)
theorem lkl_X8_47 : Cond.constantLong RX8 47 (3) ∈ wG := wG_in 1083 (by decide +kernel) (by decide +kernel)
theorem lkl_X8_49 : Cond.constantLong RX8 49 (12) ∈ wG := wG_in 1084 (by decide +kernel) (by decide +kernel)
theorem lkl_X8_51 : Cond.constantLong RX8 51 (20) ∈ wG := wG_in 1096 (by decide +kernel) (by decide +kernel)
theorem lkl_X8_97 : Cond.constantLong RX8 97 (255) ∈ wG := wG_in 950 (by decide +kernel) (by decide +kernel)
theorem lkl_X8_113 : Cond.constantLong RX8 113 (9) ∈ wG := wG_in 982 (by decide +kernel) (by decide +kernel)
theorem lkl_X8_115 : Cond.constantLong RX8 115 (108) ∈ wG := wG_in 997 (by decide +kernel) (by decide +kernel)
theorem lkl_X8_161 : Cond.constantLong RX8 161 (8) ∈ wG := wG_in 1040 (by decide +kernel) (by decide +kernel)
theorem lkl_X8_172 : Cond.constantLong RX8 172 (5) ∈ wG := wG_in 1075 (by decide +kernel) (by decide +kernel)
theorem lkl_X8_188 : Cond.constantLong RX8 188 (2) ∈ wG := wG_in 1115 (by decide +kernel) (by decide +kernel)
theorem lkl_X8_205 : Cond.constantLong RX8 205 (100000) ∈ wG := wG_in 1162 (by decide +kernel) (by decide +kernel)
theorem lkl_X8_210 : Cond.constantLong RX8 210 (60) ∈ wG := wG_in 1175 (by decide +kernel) (by decide +kernel)
theorem lkl_X8_212 : Cond.constantLong RX8 212 (6364136223846793005) ∈ wG := wG_in 1176 (by decide +kernel) (by decide +kernel)
theorem lkl_X8_214 : Cond.constantLong RX8 214 (1442695040888963407) ∈ wG := wG_in 1177 (by decide +kernel) (by decide +kernel)
theorem ck_X0 : vwCl[0]? = some (RX0, TX0, 3) ∧ ∀ w ∈ u_ws RX0 TX0 3, w ∈ wG := ⟨rfl, fun w h => by
  obtain ⟨k, hk, rfl⟩ := List.mem_map.mp h
  have hk := List.mem_range.mp hk
  match k, hk with
  | 0, _ => exact wG_in 188 (by decide +kernel) (by decide +kernel)
  | 1, _ => exact wG_in 190 (by decide +kernel) (by decide +kernel)
  | 2, _ => exact wG_in 192 (by decide +kernel) (by decide +kernel)
  | k + 3, hk => exact absurd hk (by omega)⟩
theorem ct_X0 : (∀ k, k < 3 → parseFieldDescriptor (TX0 k).2.2.1 = some (tyX0 k)) ∧ (∀ a, a < 3 → ∀ b, b < 3 → a ≠ b → (TX0 a).2.1 ≠ (TX0 b).2.1) := ⟨tyX0_ok, nmX0⟩
theorem ck_X1 : vwCl[1]? = some (RX1, TX1, 6) ∧ ∀ w ∈ u_ws RX1 TX1 6, w ∈ wG := ⟨rfl, fun w h => by
  obtain ⟨k, hk, rfl⟩ := List.mem_map.mp h
  have hk := List.mem_range.mp hk
  match k, hk with
  | 0, _ => exact wG_in 124 (by decide +kernel) (by decide +kernel)
  | 1, _ => exact wG_in 126 (by decide +kernel) (by decide +kernel)
  | 2, _ => exact wG_in 128 (by decide +kernel) (by decide +kernel)
  | 3, _ => exact wG_in 130 (by decide +kernel) (by decide +kernel)
  | 4, _ => exact wG_in 132 (by decide +kernel) (by decide +kernel)
  | 5, _ => exact wG_in 134 (by decide +kernel) (by decide +kernel)
  | k + 6, hk => exact absurd hk (by omega)⟩
theorem ct_X1 : (∀ k, k < 6 → parseFieldDescriptor (TX1 k).2.2.1 = some (tyX1 k)) ∧ (∀ a, a < 6 → ∀ b, b < 6 → a ≠ b → (TX1 a).2.1 ≠ (TX1 b).2.1) := ⟨tyX1_ok, nmX1⟩
theorem ck_X2 : vwCl[2]? = some (RX2, TX2, 2) ∧ ∀ w ∈ u_ws RX2 TX2 2, w ∈ wG := ⟨rfl, fun w h => by
  obtain ⟨k, hk, rfl⟩ := List.mem_map.mp h
  have hk := List.mem_range.mp hk
  match k, hk with
  | 0, _ => exact wG_in 206 (by decide +kernel) (by decide +kernel)
  | 1, _ => exact wG_in 208 (by decide +kernel) (by decide +kernel)
  | k + 2, hk => exact absurd hk (by omega)⟩
theorem ct_X2 : (∀ k, k < 2 → parseFieldDescriptor (TX2 k).2.2.1 = some (tyX2 k)) ∧ (∀ a, a < 2 → ∀ b, b < 2 → a ≠ b → (TX2 a).2.1 ≠ (TX2 b).2.1) := ⟨tyX2_ok, nmX2⟩
theorem ck_X3 : vwCl[3]? = some (RX3, TX3, 1) ∧ ∀ w ∈ u_ws RX3 TX3 1, w ∈ wG := ⟨rfl, fun w h => by
  obtain ⟨k, hk, rfl⟩ := List.mem_map.mp h
  have hk := List.mem_range.mp hk
  match k, hk with
  | 0, _ => exact wG_in 106 (by decide +kernel) (by decide +kernel)
  | k + 1, hk => exact absurd hk (by omega)⟩
theorem ct_X3 : (∀ k, k < 1 → parseFieldDescriptor (TX3 k).2.2.1 = some (tyX3 k)) ∧ (∀ a, a < 1 → ∀ b, b < 1 → a ≠ b → (TX3 a).2.1 ≠ (TX3 b).2.1) := ⟨tyX3_ok, nmX3⟩
theorem ck_X4 : vwCl[4]? = some (RX4, TX4, 10) ∧ ∀ w ∈ u_ws RX4 TX4 10, w ∈ wG := ⟨rfl, fun w h => by
  obtain ⟨k, hk, rfl⟩ := List.mem_map.mp h
  have hk := List.mem_range.mp hk
  match k, hk with
  | 0, _ => exact wG_in 154 (by decide +kernel) (by decide +kernel)
  | 1, _ => exact wG_in 156 (by decide +kernel) (by decide +kernel)
  | 2, _ => exact wG_in 158 (by decide +kernel) (by decide +kernel)
  | 3, _ => exact wG_in 160 (by decide +kernel) (by decide +kernel)
  | 4, _ => exact wG_in 162 (by decide +kernel) (by decide +kernel)
  | 5, _ => exact wG_in 164 (by decide +kernel) (by decide +kernel)
  | 6, _ => exact wG_in 166 (by decide +kernel) (by decide +kernel)
  | 7, _ => exact wG_in 168 (by decide +kernel) (by decide +kernel)
  | 8, _ => exact wG_in 170 (by decide +kernel) (by decide +kernel)
  | 9, _ => exact wG_in 172 (by decide +kernel) (by decide +kernel)
  | k + 10, hk => exact absurd hk (by omega)⟩
theorem ct_X4 : (∀ k, k < 10 → parseFieldDescriptor (TX4 k).2.2.1 = some (tyX4 k)) ∧ (∀ a, a < 10 → ∀ b, b < 10 → a ≠ b → (TX4 a).2.1 ≠ (TX4 b).2.1) := ⟨tyX4_ok, nmX4⟩
theorem ck_X5 : vwCl[5]? = some (RX5, TX5, 3) ∧ ∀ w ∈ u_ws RX5 TX5 3, w ∈ wG := ⟨rfl, fun w h => by
  obtain ⟨k, hk, rfl⟩ := List.mem_map.mp h
  have hk := List.mem_range.mp hk
  match k, hk with
  | 0, _ => exact wG_in 220 (by decide +kernel) (by decide +kernel)
  | 1, _ => exact wG_in 222 (by decide +kernel) (by decide +kernel)
  | 2, _ => exact wG_in 224 (by decide +kernel) (by decide +kernel)
  | k + 3, hk => exact absurd hk (by omega)⟩
theorem ct_X5 : (∀ k, k < 3 → parseFieldDescriptor (TX5 k).2.2.1 = some (tyX5 k)) ∧ (∀ a, a < 3 → ∀ b, b < 3 → a ≠ b → (TX5 a).2.1 ≠ (TX5 b).2.1) := ⟨tyX5_ok, nmX5⟩
theorem ck_X6 : vwCl[6]? = some (RX6, TX6, 9) ∧ ∀ w ∈ u_ws RX6 TX6 9, w ∈ wG := ⟨rfl, fun w h => by
  obtain ⟨k, hk, rfl⟩ := List.mem_map.mp h
  have hk := List.mem_range.mp hk
  match k, hk with
  | 0, _ => exact wG_in 73 (by decide +kernel) (by decide +kernel)
  | 1, _ => exact wG_in 75 (by decide +kernel) (by decide +kernel)
  | 2, _ => exact wG_in 77 (by decide +kernel) (by decide +kernel)
  | 3, _ => exact wG_in 79 (by decide +kernel) (by decide +kernel)
  | 4, _ => exact wG_in 81 (by decide +kernel) (by decide +kernel)
  | 5, _ => exact wG_in 83 (by decide +kernel) (by decide +kernel)
  | 6, _ => exact wG_in 85 (by decide +kernel) (by decide +kernel)
  | 7, _ => exact wG_in 87 (by decide +kernel) (by decide +kernel)
  | 8, _ => exact wG_in 89 (by decide +kernel) (by decide +kernel)
  | k + 9, hk => exact absurd hk (by omega)⟩
theorem ct_X6 : (∀ k, k < 9 → parseFieldDescriptor (TX6 k).2.2.1 = some (tyX6 k)) ∧ (∀ a, a < 9 → ∀ b, b < 9 → a ≠ b → (TX6 a).2.1 ≠ (TX6 b).2.1) := ⟨tyX6_ok, nmX6⟩
theorem ck_X7 : vwCl[7]? = some (RX7, TX7, 9) ∧ ∀ w ∈ u_ws RX7 TX7 9, w ∈ wG := ⟨rfl, fun w h => by
  obtain ⟨k, hk, rfl⟩ := List.mem_map.mp h
  have hk := List.mem_range.mp hk
  match k, hk with
  | 0, _ => exact wG_in 254 (by decide +kernel) (by decide +kernel)
  | 1, _ => exact wG_in 256 (by decide +kernel) (by decide +kernel)
  | 2, _ => exact wG_in 258 (by decide +kernel) (by decide +kernel)
  | 3, _ => exact wG_in 260 (by decide +kernel) (by decide +kernel)
  | 4, _ => exact wG_in 262 (by decide +kernel) (by decide +kernel)
  | 5, _ => exact wG_in 264 (by decide +kernel) (by decide +kernel)
  | 6, _ => exact wG_in 266 (by decide +kernel) (by decide +kernel)
  | 7, _ => exact wG_in 268 (by decide +kernel) (by decide +kernel)
  | 8, _ => exact wG_in 270 (by decide +kernel) (by decide +kernel)
  | k + 9, hk => exact absurd hk (by omega)⟩
theorem ct_X7 : (∀ k, k < 9 → parseFieldDescriptor (TX7 k).2.2.1 = some (tyX7 k)) ∧ (∀ a, a < 9 → ∀ b, b < 9 → a ≠ b → (TX7 a).2.1 ≠ (TX7 b).2.1) := ⟨tyX7_ok, nmX7⟩
theorem ck_X8 : vwCl[8]? = some (RX8, TX8, 14) ∧ ∀ w ∈ u_ws RX8 TX8 14, w ∈ wG := ⟨rfl, fun w h => by
  obtain ⟨k, hk, rfl⟩ := List.mem_map.mp h
  have hk := List.mem_range.mp hk
  match k, hk with
  | 0, _ => exact wG_in 912 (by decide +kernel) (by decide +kernel)
  | 1, _ => exact wG_in 914 (by decide +kernel) (by decide +kernel)
  | 2, _ => exact wG_in 916 (by decide +kernel) (by decide +kernel)
  | 3, _ => exact wG_in 918 (by decide +kernel) (by decide +kernel)
  | 4, _ => exact wG_in 920 (by decide +kernel) (by decide +kernel)
  | 5, _ => exact wG_in 922 (by decide +kernel) (by decide +kernel)
  | 6, _ => exact wG_in 924 (by decide +kernel) (by decide +kernel)
  | 7, _ => exact wG_in 926 (by decide +kernel) (by decide +kernel)
  | 8, _ => exact wG_in 928 (by decide +kernel) (by decide +kernel)
  | 9, _ => exact wG_in 930 (by decide +kernel) (by decide +kernel)
  | 10, _ => exact wG_in 932 (by decide +kernel) (by decide +kernel)
  | 11, _ => exact wG_in 934 (by decide +kernel) (by decide +kernel)
  | 12, _ => exact wG_in 936 (by decide +kernel) (by decide +kernel)
  | 13, _ => exact wG_in 938 (by decide +kernel) (by decide +kernel)
  | k + 14, hk => exact absurd hk (by omega)⟩
theorem ct_X8 : (∀ k, k < 14 → parseFieldDescriptor (TX8 k).2.2.1 = some (tyX8 k)) ∧ (∀ a, a < 14 → ∀ b, b < 14 → a ≠ b → (TX8 a).2.1 ≠ (TX8 b).2.1) := ⟨tyX8_ok, nmX8⟩
theorem mf_X7_init : mF yX7_init cX7_init 1 none 0 := ⟨wG_in 46 (by decide +kernel) (by decide +kernel), wG_in 20 (by decide +kernel) (by decide +kernel), by decide, by decide, by decide +kernel⟩
theorem mi_X7_init : Cond.instanceMethod yX7_init ∈ wG := wG_in 45 (by decide +kernel) (by decide +kernel)
theorem mf_X7_about : mF yX7_about cX7_about 2 (some .int) 1 := ⟨wG_in 623 (by decide +kernel) (by decide +kernel), wG_in 20 (by decide +kernel) (by decide +kernel), by decide, by decide, by decide +kernel⟩
theorem mv_X7_about : mFV yX7_about := ⟨wG_in 621 (by decide +kernel) (by decide +kernel), wG_in 622 (by decide +kernel) (by decide +kernel)⟩
theorem mf_X7_accuse : mF yX7_accuse cX7_accuse 3 (some .int) 2 := ⟨wG_in 755 (by decide +kernel) (by decide +kernel), wG_in 20 (by decide +kernel) (by decide +kernel), by decide, by decide, by decide +kernel⟩
theorem mv_X7_accuse : mFV yX7_accuse := ⟨wG_in 753 (by decide +kernel) (by decide +kernel), wG_in 754 (by decide +kernel) (by decide +kernel)⟩
theorem mf_X7_accusePan : mF yX7_accusePan cX7_accusePan 2 (some .int) 1 := ⟨wG_in 770 (by decide +kernel) (by decide +kernel), wG_in 20 (by decide +kernel) (by decide +kernel), by decide, by decide, by decide +kernel⟩
theorem mv_X7_accusePan : mFV yX7_accusePan := ⟨wG_in 768 (by decide +kernel) (by decide +kernel), wG_in 769 (by decide +kernel) (by decide +kernel)⟩
theorem mf_X7_append : mF yX7_append cX7_append 2 (some .int) 1 := ⟨wG_in 478 (by decide +kernel) (by decide +kernel), wG_in 20 (by decide +kernel) (by decide +kernel), by decide, by decide, by decide +kernel⟩
theorem mv_X7_append : mFV yX7_append := ⟨wG_in 476 (by decide +kernel) (by decide +kernel), wG_in 477 (by decide +kernel) (by decide +kernel)⟩
theorem mf_X7_arms : mF yX7_arms cX7_arms 3 (some .int) 2 := ⟨wG_in 727 (by decide +kernel) (by decide +kernel), wG_in 20 (by decide +kernel) (by decide +kernel), by decide, by decide, by decide +kernel⟩
theorem mv_X7_arms : mFV yX7_arms := ⟨wG_in 725 (by decide +kernel) (by decide +kernel), wG_in 726 (by decide +kernel) (by decide +kernel)⟩
theorem mf_X7_best : mF yX7_best cX7_best 10 (some .int) 2 := ⟨wG_in 821 (by decide +kernel) (by decide +kernel), wG_in 20 (by decide +kernel) (by decide +kernel), by decide, by decide, by decide +kernel⟩
theorem mv_X7_best : mFV yX7_best := ⟨wG_in 819 (by decide +kernel) (by decide +kernel), wG_in 820 (by decide +kernel) (by decide +kernel)⟩
theorem mf_X7_bestArms : mF yX7_bestArms cX7_bestArms 7 (some .int) 2 := ⟨wG_in 835 (by decide +kernel) (by decide +kernel), wG_in 20 (by decide +kernel) (by decide +kernel), by decide, by decide, by decide +kernel⟩
theorem mv_X7_bestArms : mFV yX7_bestArms := ⟨wG_in 833 (by decide +kernel) (by decide +kernel), wG_in 834 (by decide +kernel) (by decide +kernel)⟩
theorem mf_X7_casesOf : mF yX7_casesOf cX7_casesOf 1 (some .int) 1 := ⟨wG_in 630 (by decide +kernel) (by decide +kernel), wG_in 20 (by decide +kernel) (by decide +kernel), by decide, by decide, by decide +kernel⟩
theorem ms_X7_casesOf : Cond.static yX7_casesOf ∈ wG := wG_in 629 (by decide +kernel) (by decide +kernel)
theorem mf_X7_clearText : mF yX7_clearText cX7_clearText 2 (some .int) 0 := ⟨wG_in 276 (by decide +kernel) (by decide +kernel), wG_in 20 (by decide +kernel) (by decide +kernel), by decide, by decide, by decide +kernel⟩
theorem mv_X7_clearText : mFV yX7_clearText := ⟨wG_in 274 (by decide +kernel) (by decide +kernel), wG_in 275 (by decide +kernel) (by decide +kernel)⟩
theorem mf_X7_coin : mF yX7_coin cX7_coin 2 (some .int) 1 := ⟨wG_in 648 (by decide +kernel) (by decide +kernel), wG_in 20 (by decide +kernel) (by decide +kernel), by decide, by decide, by decide +kernel⟩
theorem mv_X7_coin : mFV yX7_coin := ⟨wG_in 646 (by decide +kernel) (by decide +kernel), wG_in 647 (by decide +kernel) (by decide +kernel)⟩
theorem mf_X7_errorPosition : mF yX7_errorPosition cX7_errorPosition 2 (some .int) 0 := ⟨wG_in 280 (by decide +kernel) (by decide +kernel), wG_in 20 (by decide +kernel) (by decide +kernel), by decide, by decide, by decide +kernel⟩
theorem mv_X7_errorPosition : mFV yX7_errorPosition := ⟨wG_in 278 (by decide +kernel) (by decide +kernel), wG_in 279 (by decide +kernel) (by decide +kernel)⟩
theorem mf_X7_forget : mF yX7_forget cX7_forget 1 (some .int) 0 := ⟨wG_in 785 (by decide +kernel) (by decide +kernel), wG_in 20 (by decide +kernel) (by decide +kernel), by decide, by decide, by decide +kernel⟩
theorem mv_X7_forget : mFV yX7_forget := ⟨wG_in 783 (by decide +kernel) (by decide +kernel), wG_in 784 (by decide +kernel) (by decide +kernel)⟩
theorem mf_X7_hide : mF yX7_hide cX7_hide 3 (some .int) 2 := ⟨wG_in 701 (by decide +kernel) (by decide +kernel), wG_in 20 (by decide +kernel) (by decide +kernel), by decide, by decide, by decide +kernel⟩
theorem mv_X7_hide : mFV yX7_hide := ⟨wG_in 699 (by decide +kernel) (by decide +kernel), wG_in 700 (by decide +kernel) (by decide +kernel)⟩
theorem mf_X7_isArm : mF yX7_isArm cX7_isArm 1 (some .boolean) 1 := ⟨wG_in 590 (by decide +kernel) (by decide +kernel), wG_in 20 (by decide +kernel) (by decide +kernel), by decide, by decide, by decide +kernel⟩
theorem ms_X7_isArm : Cond.static yX7_isArm ∈ wG := wG_in 589 (by decide +kernel) (by decide +kernel)
theorem mf_X7_isLeft : mF yX7_isLeft cX7_isLeft 2 (some .int) 1 := ⟨wG_in 679 (by decide +kernel) (by decide +kernel), wG_in 20 (by decide +kernel) (by decide +kernel), by decide, by decide, by decide +kernel⟩
theorem mv_X7_isLeft : mFV yX7_isLeft := ⟨wG_in 677 (by decide +kernel) (by decide +kernel), wG_in 678 (by decide +kernel) (by decide +kernel)⟩
theorem mf_X7_isPan : mF yX7_isPan cX7_isPan 1 (some .boolean) 1 := ⟨wG_in 773 (by decide +kernel) (by decide +kernel), wG_in 20 (by decide +kernel) (by decide +kernel), by decide, by decide, by decide +kernel⟩
theorem ms_X7_isPan : Cond.static yX7_isPan ∈ wG := wG_in 772 (by decide +kernel) (by decide +kernel)
theorem mf_X7_leaves : mF yX7_leaves cX7_leaves 4 (some .int) 3 := ⟨wG_in 809 (by decide +kernel) (by decide +kernel), wG_in 20 (by decide +kernel) (by decide +kernel), by decide, by decide, by decide +kernel⟩
theorem mv_X7_leaves : mFV yX7_leaves := ⟨wG_in 807 (by decide +kernel) (by decide +kernel), wG_in 808 (by decide +kernel) (by decide +kernel)⟩
theorem mf_X7_load : mF yX7_load cX7_load 3 (some .int) 0 := ⟨wG_in 572 (by decide +kernel) (by decide +kernel), wG_in 20 (by decide +kernel) (by decide +kernel), by decide, by decide, by decide +kernel⟩
theorem mv_X7_load : mFV yX7_load := ⟨wG_in 570 (by decide +kernel) (by decide +kernel), wG_in 571 (by decide +kernel) (by decide +kernel)⟩
theorem mf_X7_needs : mF yX7_needs cX7_needs 1 (some .int) 0 := ⟨wG_in 462 (by decide +kernel) (by decide +kernel), wG_in 20 (by decide +kernel) (by decide +kernel), by decide, by decide, by decide +kernel⟩
theorem mv_X7_needs : mFV yX7_needs := ⟨wG_in 460 (by decide +kernel) (by decide +kernel), wG_in 461 (by decide +kernel) (by decide +kernel)⟩
theorem mf_X7_obeyGroup : mF yX7_obeyGroup cX7_obeyGroup 5 (some .boolean) 1 := ⟨wG_in 854 (by decide +kernel) (by decide +kernel), wG_in 20 (by decide +kernel) (by decide +kernel), by decide, by decide, by decide +kernel⟩
theorem mv_X7_obeyGroup : mFV yX7_obeyGroup := ⟨wG_in 853 (by decide +kernel) (by decide +kernel), wG_in 3 (by decide +kernel) (by decide +kernel)⟩
theorem mf_X7_obeyText : mF yX7_obeyText cX7_obeyText 1 (some .boolean) 0 := ⟨wG_in 583 (by decide +kernel) (by decide +kernel), wG_in 20 (by decide +kernel) (by decide +kernel), by decide, by decide, by decide +kernel⟩
theorem mv_X7_obeyText : mFV yX7_obeyText := ⟨wG_in 582 (by decide +kernel) (by decide +kernel), wG_in 1 (by decide +kernel) (by decide +kernel)⟩
theorem mf_X7_pans : mF yX7_pans cX7_pans 1 (some .int) 0 := ⟨wG_in 411 (by decide +kernel) (by decide +kernel), wG_in 20 (by decide +kernel) (by decide +kernel), by decide, by decide, by decide +kernel⟩
theorem mv_X7_pans : mFV yX7_pans := ⟨wG_in 409 (by decide +kernel) (by decide +kernel), wG_in 410 (by decide +kernel) (by decide +kernel)⟩
theorem mf_X7_refuseBadSets : mF yX7_refuseBadSets cX7_refuseBadSets 3 none 2 := ⟨wG_in 740 (by decide +kernel) (by decide +kernel), wG_in 20 (by decide +kernel) (by decide +kernel), by decide, by decide, by decide +kernel⟩
theorem mv_X7_refuseBadSets : mFV yX7_refuseBadSets := ⟨wG_in 739 (by decide +kernel) (by decide +kernel), wG_in 2 (by decide +kernel) (by decide +kernel)⟩
theorem mf_X7_restore : mF yX7_restore cX7_restore 3 (some .int) 1 := ⟨wG_in 887 (by decide +kernel) (by decide +kernel), wG_in 20 (by decide +kernel) (by decide +kernel), by decide, by decide, by decide +kernel⟩
theorem mv_X7_restore : mFV yX7_restore := ⟨wG_in 885 (by decide +kernel) (by decide +kernel), wG_in 886 (by decide +kernel) (by decide +kernel)⟩
theorem mf_X7_runScript : mF yX7_runScript cX7_runScript 5 (some .int) 2 := ⟨wG_in 843 (by decide +kernel) (by decide +kernel), wG_in 20 (by decide +kernel) (by decide +kernel), by decide, by decide, by decide +kernel⟩
theorem mv_X7_runScript : mFV yX7_runScript := ⟨wG_in 841 (by decide +kernel) (by decide +kernel), wG_in 842 (by decide +kernel) (by decide +kernel)⟩
theorem mf_X7_save : mF yX7_save cX7_save 3 (some .int) 1 := ⟨wG_in 879 (by decide +kernel) (by decide +kernel), wG_in 20 (by decide +kernel) (by decide +kernel), by decide, by decide, by decide +kernel⟩
theorem mv_X7_save : mFV yX7_save := ⟨wG_in 877 (by decide +kernel) (by decide +kernel), wG_in 878 (by decide +kernel) (by decide +kernel)⟩
theorem mf_X7_setsOfOne : mF yX7_setsOfOne cX7_setsOfOne 2 (some (.array .int)) 0 := ⟨wG_in 229 (by decide +kernel) (by decide +kernel), wG_in 20 (by decide +kernel) (by decide +kernel), by decide, by decide, by decide +kernel⟩
theorem ms_X7_setsOfOne : Cond.static yX7_setsOfOne ∈ wG := wG_in 228 (by decide +kernel) (by decide +kernel)
theorem mf_X7_setsOfTwo : mF yX7_setsOfTwo cX7_setsOfTwo 4 (some (.array .int)) 0 := ⟨wG_in 232 (by decide +kernel) (by decide +kernel), wG_in 20 (by decide +kernel) (by decide +kernel), by decide, by decide, by decide +kernel⟩
theorem ms_X7_setsOfTwo : Cond.static yX7_setsOfTwo ∈ wG := wG_in 231 (by decide +kernel) (by decide +kernel)
theorem mf_X7_sharpest : mF yX7_sharpest cX7_sharpest 5 (some .int) 0 := ⟨wG_in 419 (by decide +kernel) (by decide +kernel), wG_in 20 (by decide +kernel) (by decide +kernel), by decide, by decide, by decide +kernel⟩
theorem mv_X7_sharpest : mFV yX7_sharpest := ⟨wG_in 417 (by decide +kernel) (by decide +kernel), wG_in 418 (by decide +kernel) (by decide +kernel)⟩
theorem mf_X7_simulate : mF yX7_simulate cX7_simulate 7 (some .int) 2 := ⟨wG_in 865 (by decide +kernel) (by decide +kernel), wG_in 20 (by decide +kernel) (by decide +kernel), by decide, by decide, by decide +kernel⟩
theorem mv_X7_simulate : mFV yX7_simulate := ⟨wG_in 863 (by decide +kernel) (by decide +kernel), wG_in 864 (by decide +kernel) (by decide +kernel)⟩
theorem mf_X7_takeTurn : mF yX7_takeTurn cX7_takeTurn 6 none 1 := ⟨wG_in 872 (by decide +kernel) (by decide +kernel), wG_in 20 (by decide +kernel) (by decide +kernel), by decide, by decide, by decide +kernel⟩
theorem mv_X7_takeTurn : mFV yX7_takeTurn := ⟨wG_in 871 (by decide +kernel) (by decide +kernel), wG_in 5 (by decide +kernel) (by decide +kernel)⟩
theorem mf_X7_tryCoins : mF yX7_tryCoins cX7_tryCoins 3 (some .boolean) 2 := ⟨wG_in 858 (by decide +kernel) (by decide +kernel), wG_in 20 (by decide +kernel) (by decide +kernel), by decide, by decide, by decide +kernel⟩
theorem mv_X7_tryCoins : mFV yX7_tryCoins := ⟨wG_in 857 (by decide +kernel) (by decide +kernel), wG_in 4 (by decide +kernel) (by decide +kernel)⟩
theorem mf_X7_undo : mF yX7_undo cX7_undo 1 (some .int) 0 := ⟨wG_in 797 (by decide +kernel) (by decide +kernel), wG_in 20 (by decide +kernel) (by decide +kernel), by decide, by decide, by decide +kernel⟩
theorem mv_X7_undo : mFV yX7_undo := ⟨wG_in 795 (by decide +kernel) (by decide +kernel), wG_in 796 (by decide +kernel) (by decide +kernel)⟩
theorem mf_X7_weigh : mF yX7_weigh cX7_weigh 3 (some .int) 2 := ⟨wG_in 736 (by decide +kernel) (by decide +kernel), wG_in 20 (by decide +kernel) (by decide +kernel), by decide, by decide, by decide +kernel⟩
theorem mv_X7_weigh : mFV yX7_weigh := ⟨wG_in 734 (by decide +kernel) (by decide +kernel), wG_in 735 (by decide +kernel) (by decide +kernel)⟩
theorem mf_X7_weighing : mF yX7_weighing cX7_weighing 3 (some .int) 2 := ⟨wG_in 691 (by decide +kernel) (by decide +kernel), wG_in 20 (by decide +kernel) (by decide +kernel), by decide, by decide, by decide +kernel⟩
theorem mv_X7_weighing : mFV yX7_weighing := ⟨wG_in 689 (by decide +kernel) (by decide +kernel), wG_in 690 (by decide +kernel) (by decide +kernel)⟩
theorem mf_X7_weighingsFor : mF yX7_weighingsFor cX7_weighingsFor 4 (some .int) 1 := ⟨wG_in 469 (by decide +kernel) (by decide +kernel), wG_in 20 (by decide +kernel) (by decide +kernel), by decide, by decide, by decide +kernel⟩
theorem ms_X7_weighingsFor : Cond.static yX7_weighingsFor ∈ wG := wG_in 468 (by decide +kernel) (by decide +kernel)
theorem mf_X7_withoutGroups : mF yX7_withoutGroups cX7_withoutGroups 6 (some .long) 2 := ⟨wG_in 847 (by decide +kernel) (by decide +kernel), wG_in 20 (by decide +kernel) (by decide +kernel), by decide, by decide, by decide +kernel⟩
theorem ms_X7_withoutGroups : Cond.static yX7_withoutGroups ∈ wG := wG_in 846 (by decide +kernel) (by decide +kernel)
theorem mf_X0_init : mF yX0_init cX0_init 2 none 0 := ⟨wG_in 179 (by decide +kernel) (by decide +kernel), wG_in 25 (by decide +kernel) (by decide +kernel), by decide, by decide, by decide +kernel⟩
theorem mi_X0_init : Cond.instanceMethod yX0_init ∈ wG := wG_in 178 (by decide +kernel) (by decide +kernel)
theorem mf_X0_clear : mF yX0_clear cX0_clear 1 none 0 := ⟨wG_in 578 (by decide +kernel) (by decide +kernel), wG_in 25 (by decide +kernel) (by decide +kernel), by decide, by decide, by decide +kernel⟩
theorem mv_X0_clear : mFV yX0_clear := ⟨wG_in 576 (by decide +kernel) (by decide +kernel), wG_in 577 (by decide +kernel) (by decide +kernel)⟩
theorem mf_X0_placeAt : mF yX0_placeAt cX0_placeAt 2 (some (.object "FalsePan$Table")) 1 := ⟨wG_in 711 (by decide +kernel) (by decide +kernel), wG_in 25 (by decide +kernel) (by decide +kernel), by decide, by decide, by decide +kernel⟩
theorem mv_X0_placeAt : mFV yX0_placeAt := ⟨wG_in 709 (by decide +kernel) (by decide +kernel), wG_in 710 (by decide +kernel) (by decide +kernel)⟩
theorem mf_X0_remember : mF yX0_remember cX0_remember 3 none 1 := ⟨wG_in 707 (by decide +kernel) (by decide +kernel), wG_in 25 (by decide +kernel) (by decide +kernel), by decide, by decide, by decide +kernel⟩
theorem mv_X0_remember : mFV yX0_remember := ⟨wG_in 705 (by decide +kernel) (by decide +kernel), wG_in 706 (by decide +kernel) (by decide +kernel)⟩
theorem mf_X0_takeBack : mF yX0_takeBack cX0_takeBack 4 none 1 := ⟨wG_in 802 (by decide +kernel) (by decide +kernel), wG_in 25 (by decide +kernel) (by decide +kernel), by decide, by decide, by decide +kernel⟩
theorem mv_X0_takeBack : mFV yX0_takeBack := ⟨wG_in 800 (by decide +kernel) (by decide +kernel), wG_in 801 (by decide +kernel) (by decide +kernel)⟩
theorem mf_X1_init : mF yX1_init cX1_init 1 none 0 := ⟨wG_in 114 (by decide +kernel) (by decide +kernel), wG_in 24 (by decide +kernel) (by decide +kernel), by decide, by decide, by decide +kernel⟩
theorem mi_X1_init : Cond.instanceMethod yX1_init ∈ wG := wG_in 113 (by decide +kernel) (by decide +kernel)
theorem mf_X1_outcome : mF yX1_outcome cX1_outcome 6 (some .int) 3 := ⟨wG_in 449 (by decide +kernel) (by decide +kernel), wG_in 24 (by decide +kernel) (by decide +kernel), by decide, by decide, by decide +kernel⟩
theorem mv_X1_outcome : mFV yX1_outcome := ⟨wG_in 447 (by decide +kernel) (by decide +kernel), wG_in 448 (by decide +kernel) (by decide +kernel)⟩
theorem mf_X1_outcomeInCase : mF yX1_outcomeInCase cX1_outcomeInCase 5 (some .int) 1 := ⟨wG_in 606 (by decide +kernel) (by decide +kernel), wG_in 24 (by decide +kernel) (by decide +kernel), by decide, by decide, by decide +kernel⟩
theorem mv_X1_outcomeInCase : mFV yX1_outcomeInCase := ⟨wG_in 604 (by decide +kernel) (by decide +kernel), wG_in 605 (by decide +kernel) (by decide +kernel)⟩
theorem mf_X1_set : mF yX1_set cX1_set 5 none 4 := ⟨wG_in 431 (by decide +kernel) (by decide +kernel), wG_in 24 (by decide +kernel) (by decide +kernel), by decide, by decide, by decide +kernel⟩
theorem mv_X1_set : mFV yX1_set := ⟨wG_in 429 (by decide +kernel) (by decide +kernel), wG_in 430 (by decide +kernel) (by decide +kernel)⟩
theorem mf_X2_init : mF yX2_init cX2_init 1 none 0 := ⟨wG_in 199 (by decide +kernel) (by decide +kernel), wG_in 26 (by decide +kernel) (by decide +kernel), by decide, by decide, by decide +kernel⟩
theorem mi_X2_init : Cond.instanceMethod yX2_init ∈ wG := wG_in 198 (by decide +kernel) (by decide +kernel)
theorem mf_X3_init : mF yX3_init cX3_init 1 none 0 := ⟨wG_in 103 (by decide +kernel) (by decide +kernel), wG_in 23 (by decide +kernel) (by decide +kernel), by decide, by decide, by decide +kernel⟩
theorem mi_X3_init : Cond.instanceMethod yX3_init ∈ wG := wG_in 102 (by decide +kernel) (by decide +kernel)
theorem mf_X3_coinMayBe : mF yX3_coinMayBe cX3_coinMayBe 4 (some .int) 1 := ⟨wG_in 672 (by decide +kernel) (by decide +kernel), wG_in 23 (by decide +kernel) (by decide +kernel), by decide, by decide, by decide +kernel⟩
theorem mv_X3_coinMayBe : mFV yX3_coinMayBe := ⟨wG_in 670 (by decide +kernel) (by decide +kernel), wG_in 671 (by decide +kernel) (by decide +kernel)⟩
theorem mf_X3_copyFrom : mF yX3_copyFrom cX3_copyFrom 3 none 1 := ⟨wG_in 719 (by decide +kernel) (by decide +kernel), wG_in 23 (by decide +kernel) (by decide +kernel), by decide, by decide, by decide +kernel⟩
theorem mv_X3_copyFrom : mFV yX3_copyFrom := ⟨wG_in 717 (by decide +kernel) (by decide +kernel), wG_in 718 (by decide +kernel) (by decide +kernel)⟩
theorem mf_X3_count : mF yX3_count cX3_count 3 (some .int) 0 := ⟨wG_in 466 (by decide +kernel) (by decide +kernel), wG_in 23 (by decide +kernel) (by decide +kernel), by decide, by decide, by decide +kernel⟩
theorem mv_X3_count : mFV yX3_count := ⟨wG_in 464 (by decide +kernel) (by decide +kernel), wG_in 465 (by decide +kernel) (by decide +kernel)⟩
theorem mf_X3_has : mF yX3_has cX3_has 4 (some .boolean) 1 := ⟨wG_in 684 (by decide +kernel) (by decide +kernel), wG_in 23 (by decide +kernel) (by decide +kernel), by decide, by decide, by decide +kernel⟩
theorem mv_X3_has : mFV yX3_has := ⟨wG_in 682 (by decide +kernel) (by decide +kernel), wG_in 683 (by decide +kernel) (by decide +kernel)⟩
theorem mf_X3_keep : mF yX3_keep cX3_keep 6 none 2 := ⟨wG_in 611 (by decide +kernel) (by decide +kernel), wG_in 23 (by decide +kernel) (by decide +kernel), by decide, by decide, by decide +kernel⟩
theorem mv_X3_keep : mFV yX3_keep := ⟨wG_in 609 (by decide +kernel) (by decide +kernel), wG_in 610 (by decide +kernel) (by decide +kernel)⟩
theorem mf_X3_pansMayBe : mF yX3_pansMayBe cX3_pansMayBe 3 (some .int) 0 := ⟨wG_in 415 (by decide +kernel) (by decide +kernel), wG_in 23 (by decide +kernel) (by decide +kernel), by decide, by decide, by decide +kernel⟩
theorem mv_X3_pansMayBe : mFV yX3_pansMayBe := ⟨wG_in 413 (by decide +kernel) (by decide +kernel), wG_in 414 (by decide +kernel) (by decide +kernel)⟩
theorem mf_X3_sort : mF yX3_sort cX3_sort 8 none 2 := ⟨wG_in 441 (by decide +kernel) (by decide +kernel), wG_in 23 (by decide +kernel) (by decide +kernel), by decide, by decide, by decide +kernel⟩
theorem mv_X3_sort : mFV yX3_sort := ⟨wG_in 439 (by decide +kernel) (by decide +kernel), wG_in 440 (by decide +kernel) (by decide +kernel)⟩
theorem mf_X3_suspectAll : mF yX3_suspectAll cX3_suspectAll 4 none 1 := ⟨wG_in 244 (by decide +kernel) (by decide +kernel), wG_in 23 (by decide +kernel) (by decide +kernel), by decide, by decide, by decide +kernel⟩
theorem mv_X3_suspectAll : mFV yX3_suspectAll := ⟨wG_in 242 (by decide +kernel) (by decide +kernel), wG_in 243 (by decide +kernel) (by decide +kernel)⟩
theorem mf_X4_init : mF yX4_init cX4_init 1 none 0 := ⟨wG_in 97 (by decide +kernel) (by decide +kernel), wG_in 22 (by decide +kernel) (by decide +kernel), by decide, by decide, by decide +kernel⟩
theorem mi_X4_init : Cond.instanceMethod yX4_init ∈ wG := wG_in 96 (by decide +kernel) (by decide +kernel)
theorem mf_X4_allCases : mF yX4_allCases cX4_allCases 1 (some .int) 0 := ⟨wG_in 627 (by decide +kernel) (by decide +kernel), wG_in 22 (by decide +kernel) (by decide +kernel), by decide, by decide, by decide +kernel⟩
theorem mv_X4_allCases : mFV yX4_allCases := ⟨wG_in 625 (by decide +kernel) (by decide +kernel), wG_in 626 (by decide +kernel) (by decide +kernel)⟩
theorem mf_X4_blameCoin : mF yX4_blameCoin cX4_blameCoin 3 (some .boolean) 2 := ⟨wG_in 759 (by decide +kernel) (by decide +kernel), wG_in 22 (by decide +kernel) (by decide +kernel), by decide, by decide, by decide +kernel⟩
theorem mv_X4_blameCoin : mFV yX4_blameCoin := ⟨wG_in 757 (by decide +kernel) (by decide +kernel), wG_in 758 (by decide +kernel) (by decide +kernel)⟩
theorem mf_X4_blamePan : mF yX4_blamePan cX4_blamePan 2 (some .boolean) 1 := ⟨wG_in 778 (by decide +kernel) (by decide +kernel), wG_in 22 (by decide +kernel) (by decide +kernel), by decide, by decide, by decide +kernel⟩
theorem mv_X4_blamePan : mFV yX4_blamePan := ⟨wG_in 776 (by decide +kernel) (by decide +kernel), wG_in 777 (by decide +kernel) (by decide +kernel)⟩
theorem mf_X4_canWeigh : mF yX4_canWeigh cX4_canWeigh 4 (some .boolean) 2 := ⟨wG_in 598 (by decide +kernel) (by decide +kernel), wG_in 22 (by decide +kernel) (by decide +kernel), by decide, by decide, by decide +kernel⟩
theorem mv_X4_canWeigh : mFV yX4_canWeigh := ⟨wG_in 596 (by decide +kernel) (by decide +kernel), wG_in 597 (by decide +kernel) (by decide +kernel)⟩
theorem mf_X4_copyFrom : mF yX4_copyFrom cX4_copyFrom 3 none 1 := ⟨wG_in 715 (by decide +kernel) (by decide +kernel), wG_in 22 (by decide +kernel) (by decide +kernel), by decide, by decide, by decide +kernel⟩
theorem mv_X4_copyFrom : mFV yX4_copyFrom := ⟨wG_in 713 (by decide +kernel) (by decide +kernel), wG_in 714 (by decide +kernel) (by decide +kernel)⟩
theorem mf_X4_foresee : mF yX4_foresee cX4_foresee 4 none 3 := ⟨wG_in 423 (by decide +kernel) (by decide +kernel), wG_in 22 (by decide +kernel) (by decide +kernel), by decide, by decide, by decide +kernel⟩
theorem mv_X4_foresee : mFV yX4_foresee := ⟨wG_in 421 (by decide +kernel) (by decide +kernel), wG_in 422 (by decide +kernel) (by decide +kernel)⟩
theorem mf_X4_foreseeWith : mF yX4_foreseeWith cX4_foreseeWith 6 none 5 := ⟨wG_in 427 (by decide +kernel) (by decide +kernel), wG_in 22 (by decide +kernel) (by decide +kernel), by decide, by decide, by decide +kernel⟩
theorem mv_X4_foreseeWith : mFV yX4_foreseeWith := ⟨wG_in 425 (by decide +kernel) (by decide +kernel), wG_in 426 (by decide +kernel) (by decide +kernel)⟩
theorem mf_X4_hasCoin : mF yX4_hasCoin cX4_hasCoin 2 (some .boolean) 1 := ⟨wG_in 652 (by decide +kernel) (by decide +kernel), wG_in 22 (by decide +kernel) (by decide +kernel), by decide, by decide, by decide +kernel⟩
theorem mv_X4_hasCoin : mFV yX4_hasCoin := ⟨wG_in 650 (by decide +kernel) (by decide +kernel), wG_in 651 (by decide +kernel) (by decide +kernel)⟩
theorem mf_X4_idleWeighings : mF yX4_idleWeighings cX4_idleWeighings 5 (some .int) 0 := ⟨wG_in 634 (by decide +kernel) (by decide +kernel), wG_in 22 (by decide +kernel) (by decide +kernel), by decide, by decide, by decide +kernel⟩
theorem mv_X4_idleWeighings : mFV yX4_idleWeighings := ⟨wG_in 632 (by decide +kernel) (by decide +kernel), wG_in 633 (by decide +kernel) (by decide +kernel)⟩
theorem mf_X4_isFull : mF yX4_isFull cX4_isFull 1 (some .boolean) 0 := ⟨wG_in 602 (by decide +kernel) (by decide +kernel), wG_in 22 (by decide +kernel) (by decide +kernel), by decide, by decide, by decide +kernel⟩
theorem mv_X4_isFull : mFV yX4_isFull := ⟨wG_in 600 (by decide +kernel) (by decide +kernel), wG_in 601 (by decide +kernel) (by decide +kernel)⟩
theorem mf_X4_kept : mF yX4_kept cX4_kept 4 (some .int) 2 := ⟨wG_in 639 (by decide +kernel) (by decide +kernel), wG_in 22 (by decide +kernel) (by decide +kernel), by decide, by decide, by decide +kernel⟩
theorem mv_X4_kept : mFV yX4_kept := ⟨wG_in 637 (by decide +kernel) (by decide +kernel), wG_in 638 (by decide +kernel) (by decide +kernel)⟩
theorem mf_X4_lastOutcome : mF yX4_lastOutcome cX4_lastOutcome 1 (some .int) 0 := ⟨wG_in 748 (by decide +kernel) (by decide +kernel), wG_in 22 (by decide +kernel) (by decide +kernel), by decide, by decide, by decide +kernel⟩
theorem mv_X4_lastOutcome : mFV yX4_lastOutcome := ⟨wG_in 746 (by decide +kernel) (by decide +kernel), wG_in 747 (by decide +kernel) (by decide +kernel)⟩
theorem mf_X4_layOut : mF yX4_layOut cX4_layOut 3 none 2 := ⟨wG_in 240 (by decide +kernel) (by decide +kernel), wG_in 22 (by decide +kernel) (by decide +kernel), by decide, by decide, by decide +kernel⟩
theorem mv_X4_layOut : mFV yX4_layOut := ⟨wG_in 238 (by decide +kernel) (by decide +kernel), wG_in 239 (by decide +kernel) (by decide +kernel)⟩
theorem mf_X4_noteBlame : mF yX4_noteBlame cX4_noteBlame 2 (some .boolean) 1 := ⟨wG_in 763 (by decide +kernel) (by decide +kernel), wG_in 22 (by decide +kernel) (by decide +kernel), by decide, by decide, by decide +kernel⟩
theorem mv_X4_noteBlame : mFV yX4_noteBlame := ⟨wG_in 761 (by decide +kernel) (by decide +kernel), wG_in 762 (by decide +kernel) (by decide +kernel)⟩
theorem mf_X4_reset : mF yX4_reset cX4_reset 1 none 0 := ⟨wG_in 236 (by decide +kernel) (by decide +kernel), wG_in 22 (by decide +kernel) (by decide +kernel), by decide, by decide, by decide +kernel⟩
theorem mv_X4_reset : mFV yX4_reset := ⟨wG_in 234 (by decide +kernel) (by decide +kernel), wG_in 235 (by decide +kernel) (by decide +kernel)⟩
theorem mf_X4_tryArms : mF yX4_tryArms cX4_tryArms 3 (some .boolean) 2 := ⟨wG_in 587 (by decide +kernel) (by decide +kernel), wG_in 22 (by decide +kernel) (by decide +kernel), by decide, by decide, by decide +kernel⟩
theorem mv_X4_tryArms : mFV yX4_tryArms := ⟨wG_in 585 (by decide +kernel) (by decide +kernel), wG_in 586 (by decide +kernel) (by decide +kernel)⟩
theorem mf_X4_tryForgetting : mF yX4_tryForgetting cX4_tryForgetting 2 (some .boolean) 0 := ⟨wG_in 790 (by decide +kernel) (by decide +kernel), wG_in 22 (by decide +kernel) (by decide +kernel), by decide, by decide, by decide +kernel⟩
theorem mv_X4_tryForgetting : mFV yX4_tryForgetting := ⟨wG_in 788 (by decide +kernel) (by decide +kernel), wG_in 789 (by decide +kernel) (by decide +kernel)⟩
theorem mf_X4_tryWeighing : mF yX4_tryWeighing cX4_tryWeighing 5 (some .boolean) 2 := ⟨wG_in 594 (by decide +kernel) (by decide +kernel), wG_in 22 (by decide +kernel) (by decide +kernel), by decide, by decide, by decide +kernel⟩
theorem mv_X4_tryWeighing : mFV yX4_tryWeighing := ⟨wG_in 592 (by decide +kernel) (by decide +kernel), wG_in 593 (by decide +kernel) (by decide +kernel)⟩
theorem mf_X4_write : mF yX4_write cX4_write 5 none 3 := ⟨wG_in 615 (by decide +kernel) (by decide +kernel), wG_in 22 (by decide +kernel) (by decide +kernel), by decide, by decide, by decide +kernel⟩
theorem mv_X4_write : mFV yX4_write := ⟨wG_in 613 (by decide +kernel) (by decide +kernel), wG_in 614 (by decide +kernel) (by decide +kernel)⟩
theorem mf_X5_init : mF yX5_init cX5_init 1 none 0 := ⟨wG_in 215 (by decide +kernel) (by decide +kernel), wG_in 27 (by decide +kernel) (by decide +kernel), by decide, by decide, by decide +kernel⟩
theorem mi_X5_init : Cond.instanceMethod yX5_init ∈ wG := wG_in 214 (by decide +kernel) (by decide +kernel)
theorem mf_X5_add : mF yX5_add cX5_add 3 none 2 := ⟨wG_in 454 (by decide +kernel) (by decide +kernel), wG_in 27 (by decide +kernel) (by decide +kernel), by decide, by decide, by decide +kernel⟩
theorem mv_X5_add : mFV yX5_add := ⟨wG_in 452 (by decide +kernel) (by decide +kernel), wG_in 453 (by decide +kernel) (by decide +kernel)⟩
theorem mf_X5_clear : mF yX5_clear cX5_clear 1 none 0 := ⟨wG_in 445 (by decide +kernel) (by decide +kernel), wG_in 27 (by decide +kernel) (by decide +kernel), by decide, by decide, by decide +kernel⟩
theorem mv_X5_clear : mFV yX5_clear := ⟨wG_in 443 (by decide +kernel) (by decide +kernel), wG_in 444 (by decide +kernel) (by decide +kernel)⟩
theorem mf_X5_of : mF yX5_of cX5_of 2 (some .int) 1 := ⟨wG_in 814 (by decide +kernel) (by decide +kernel), wG_in 27 (by decide +kernel) (by decide +kernel), by decide, by decide, by decide +kernel⟩
theorem mv_X5_of : mFV yX5_of := ⟨wG_in 812 (by decide +kernel) (by decide +kernel), wG_in 813 (by decide +kernel) (by decide +kernel)⟩
theorem mf_X5_unlikePairs : mF yX5_unlikePairs cX5_unlikePairs 1 (some .int) 0 := ⟨wG_in 458 (by decide +kernel) (by decide +kernel), wG_in 27 (by decide +kernel) (by decide +kernel), by decide, by decide, by decide +kernel⟩
theorem mv_X5_unlikePairs : mFV yX5_unlikePairs := ⟨wG_in 456 (by decide +kernel) (by decide +kernel), wG_in 457 (by decide +kernel) (by decide +kernel)⟩
theorem mf_X5_worst : mF yX5_worst cX5_worst 1 (some .int) 0 := ⟨wG_in 827 (by decide +kernel) (by decide +kernel), wG_in 27 (by decide +kernel) (by decide +kernel), by decide, by decide, by decide +kernel⟩
theorem mv_X5_worst : mFV yX5_worst := ⟨wG_in 825 (by decide +kernel) (by decide +kernel), wG_in 826 (by decide +kernel) (by decide +kernel)⟩
theorem mf_X6_init : mF yX6_init cX6_init 1 none 0 := ⟨wG_in 54 (by decide +kernel) (by decide +kernel), wG_in 21 (by decide +kernel) (by decide +kernel), by decide, by decide, by decide +kernel⟩
theorem mi_X6_init : Cond.instanceMethod yX6_init ∈ wG := wG_in 53 (by decide +kernel) (by decide +kernel)
theorem mf_X6_add : mF yX6_add cX6_add 2 none 1 := ⟨wG_in 565 (by decide +kernel) (by decide +kernel), wG_in 21 (by decide +kernel) (by decide +kernel), by decide, by decide, by decide +kernel⟩
theorem mv_X6_add : mFV yX6_add := ⟨wG_in 563 (by decide +kernel) (by decide +kernel), wG_in 564 (by decide +kernel) (by decide +kernel)⟩
theorem mf_X6_hasMore : mF yX6_hasMore cX6_hasMore 1 (some .boolean) 0 := ⟨wG_in 297 (by decide +kernel) (by decide +kernel), wG_in 21 (by decide +kernel) (by decide +kernel), by decide, by decide, by decide +kernel⟩
theorem mv_X6_hasMore : mFV yX6_hasMore := ⟨wG_in 295 (by decide +kernel) (by decide +kernel), wG_in 296 (by decide +kernel) (by decide +kernel)⟩
theorem mf_X6_nextSign : mF yX6_nextSign cX6_nextSign 1 (some .int) 0 := ⟨wG_in 293 (by decide +kernel) (by decide +kernel), wG_in 21 (by decide +kernel) (by decide +kernel), by decide, by decide, by decide +kernel⟩
theorem mv_X6_nextSign : mFV yX6_nextSign := ⟨wG_in 291 (by decide +kernel) (by decide +kernel), wG_in 292 (by decide +kernel) (by decide +kernel)⟩
theorem mf_X6_readCoins : mF yX6_readCoins cX6_readCoins 3 (some .int) 0 := ⟨wG_in 404 (by decide +kernel) (by decide +kernel), wG_in 21 (by decide +kernel) (by decide +kernel), by decide, by decide, by decide +kernel⟩
theorem mv_X6_readCoins : mFV yX6_readCoins := ⟨wG_in 402 (by decide +kernel) (by decide +kernel), wG_in 403 (by decide +kernel) (by decide +kernel)⟩
theorem mf_X6_readCommand : mF yX6_readCommand cX6_readCommand 1 none 0 := ⟨wG_in 399 (by decide +kernel) (by decide +kernel), wG_in 21 (by decide +kernel) (by decide +kernel), by decide, by decide, by decide +kernel⟩
theorem mv_X6_readCommand : mFV yX6_readCommand := ⟨wG_in 397 (by decide +kernel) (by decide +kernel), wG_in 398 (by decide +kernel) (by decide +kernel)⟩
theorem mf_X6_readDigit : mF yX6_readDigit cX6_readDigit 4 (some .int) 2 := ⟨wG_in 391 (by decide +kernel) (by decide +kernel), wG_in 21 (by decide +kernel) (by decide +kernel), by decide, by decide, by decide +kernel⟩
theorem mv_X6_readDigit : mFV yX6_readDigit := ⟨wG_in 389 (by decide +kernel) (by decide +kernel), wG_in 390 (by decide +kernel) (by decide +kernel)⟩
theorem mf_X6_readHead : mF yX6_readHead cX6_readHead 5 none 0 := ⟨wG_in 284 (by decide +kernel) (by decide +kernel), wG_in 21 (by decide +kernel) (by decide +kernel), by decide, by decide, by decide +kernel⟩
theorem mv_X6_readHead : mFV yX6_readHead := ⟨wG_in 282 (by decide +kernel) (by decide +kernel), wG_in 283 (by decide +kernel) (by decide +kernel)⟩
theorem mf_X6_readNumber : mF yX6_readNumber cX6_readNumber 5 (some .int) 2 := ⟨wG_in 387 (by decide +kernel) (by decide +kernel), wG_in 21 (by decide +kernel) (by decide +kernel), by decide, by decide, by decide +kernel⟩
theorem mv_X6_readNumber : mFV yX6_readNumber := ⟨wG_in 385 (by decide +kernel) (by decide +kernel), wG_in 386 (by decide +kernel) (by decide +kernel)⟩
theorem mf_X6_readOneOf : mF yX6_readOneOf cX6_readOneOf 4 (some .int) 1 := ⟨wG_in 289 (by decide +kernel) (by decide +kernel), wG_in 21 (by decide +kernel) (by decide +kernel), by decide, by decide, by decide +kernel⟩
theorem mv_X6_readOneOf : mFV yX6_readOneOf := ⟨wG_in 287 (by decide +kernel) (by decide +kernel), wG_in 288 (by decide +kernel) (by decide +kernel)⟩
theorem mf_X8_init : mF yX8_init cX8_init 1 none 0 := ⟨wG_in 893 (by decide +kernel) (by decide +kernel), wG_in 28 (by decide +kernel) (by decide +kernel), by decide, by decide, by decide +kernel⟩
theorem mi_X8_init : Cond.instanceMethod yX8_init ∈ wG := wG_in 892 (by decide +kernel) (by decide +kernel)
theorem mf_X8_about : mF yX8_about cX8_about 4 (some .int) 1 := ⟨wG_in 1039 (by decide +kernel) (by decide +kernel), wG_in 28 (by decide +kernel) (by decide +kernel), by decide, by decide, by decide +kernel⟩
theorem mv_X8_about : mFV yX8_about := ⟨wG_in 1037 (by decide +kernel) (by decide +kernel), wG_in 1038 (by decide +kernel) (by decide +kernel)⟩
theorem mf_X8_accuse : mF yX8_accuse cX8_accuse 3 (some .int) 2 := ⟨wG_in 1104 (by decide +kernel) (by decide +kernel), wG_in 28 (by decide +kernel) (by decide +kernel), by decide, by decide, by decide +kernel⟩
theorem mv_X8_accuse : mFV yX8_accuse := ⟨wG_in 1102 (by decide +kernel) (by decide +kernel), wG_in 1103 (by decide +kernel) (by decide +kernel)⟩
theorem mf_X8_accuseOn : mF yX8_accuseOn cX8_accuseOn 3 (some .int) 3 := ⟨wG_in 1107 (by decide +kernel) (by decide +kernel), wG_in 28 (by decide +kernel) (by decide +kernel), by decide, by decide, by decide +kernel⟩
theorem ms_X8_accuseOn : Cond.static yX8_accuseOn ∈ wG := wG_in 1106 (by decide +kernel) (by decide +kernel)
theorem mf_X8_accusePan : mF yX8_accusePan cX8_accusePan 2 (some .int) 1 := ⟨wG_in 1114 (by decide +kernel) (by decide +kernel), wG_in 28 (by decide +kernel) (by decide +kernel), by decide, by decide, by decide +kernel⟩
theorem mv_X8_accusePan : mFV yX8_accusePan := ⟨wG_in 1112 (by decide +kernel) (by decide +kernel), wG_in 1113 (by decide +kernel) (by decide +kernel)⟩
theorem mf_X8_allOf : mF yX8_allOf cX8_allOf 1 (some .int) 1 := ⟨wG_in 988 (by decide +kernel) (by decide +kernel), wG_in 28 (by decide +kernel) (by decide +kernel), by decide, by decide, by decide +kernel⟩
theorem ms_X8_allOf : Cond.static yX8_allOf ∈ wG := wG_in 987 (by decide +kernel) (by decide +kernel)
theorem mf_X8_append : mF yX8_append cX8_append 2 (some .int) 1 := ⟨wG_in 949 (by decide +kernel) (by decide +kernel), wG_in 28 (by decide +kernel) (by decide +kernel), by decide, by decide, by decide +kernel⟩
theorem mv_X8_append : mFV yX8_append := ⟨wG_in 947 (by decide +kernel) (by decide +kernel), wG_in 948 (by decide +kernel) (by decide +kernel)⟩
theorem mf_X8_arms : mF yX8_arms cX8_arms 3 (some .int) 2 := ⟨wG_in 1092 (by decide +kernel) (by decide +kernel), wG_in 28 (by decide +kernel) (by decide +kernel), by decide, by decide, by decide +kernel⟩
theorem mv_X8_arms : mFV yX8_arms := ⟨wG_in 1090 (by decide +kernel) (by decide +kernel), wG_in 1091 (by decide +kernel) (by decide +kernel)⟩
theorem mf_X8_armsOn : mF yX8_armsOn cX8_armsOn 3 (some .int) 3 := ⟨wG_in 1028 (by decide +kernel) (by decide +kernel), wG_in 28 (by decide +kernel) (by decide +kernel), by decide, by decide, by decide +kernel⟩
theorem ms_X8_armsOn : Cond.static yX8_armsOn ∈ wG := wG_in 1027 (by decide +kernel) (by decide +kernel)
theorem mf_X8_at : mF yX8_at cX8_at 1 (some .int) 1 := ⟨wG_in 1012 (by decide +kernel) (by decide +kernel), wG_in 28 (by decide +kernel) (by decide +kernel), by decide, by decide, by decide +kernel⟩
theorem ms_X8_at : Cond.static yX8_at ∈ wG := wG_in 1011 (by decide +kernel) (by decide +kernel)
theorem mf_X8_best : mF yX8_best cX8_best 11 (some .int) 2 := ⟨wG_in 1142 (by decide +kernel) (by decide +kernel), wG_in 28 (by decide +kernel) (by decide +kernel), by decide, by decide, by decide +kernel⟩
theorem mv_X8_best : mFV yX8_best := ⟨wG_in 1140 (by decide +kernel) (by decide +kernel), wG_in 1141 (by decide +kernel) (by decide +kernel)⟩
theorem mf_X8_bestArms : mF yX8_bestArms cX8_bestArms 9 (some .int) 2 := ⟨wG_in 1157 (by decide +kernel) (by decide +kernel), wG_in 28 (by decide +kernel) (by decide +kernel), by decide, by decide, by decide +kernel⟩
theorem mv_X8_bestArms : mFV yX8_bestArms := ⟨wG_in 1155 (by decide +kernel) (by decide +kernel), wG_in 1156 (by decide +kernel) (by decide +kernel)⟩
theorem mf_X8_bits : mF yX8_bits cX8_bits 3 (some .int) 1 := ⟨wG_in 1021 (by decide +kernel) (by decide +kernel), wG_in 28 (by decide +kernel) (by decide +kernel), by decide, by decide, by decide +kernel⟩
theorem ms_X8_bits : Cond.static yX8_bits ∈ wG := wG_in 1020 (by decide +kernel) (by decide +kernel)
theorem mf_X8_canWeigh : mF yX8_canWeigh cX8_canWeigh 3 (some .boolean) 3 := ⟨wG_in 1000 (by decide +kernel) (by decide +kernel), wG_in 28 (by decide +kernel) (by decide +kernel), by decide, by decide, by decide +kernel⟩
theorem ms_X8_canWeigh : Cond.static yX8_canWeigh ∈ wG := wG_in 999 (by decide +kernel) (by decide +kernel)
theorem mf_X8_clear : mF yX8_clear cX8_clear 2 none 1 := ⟨wG_in 897 (by decide +kernel) (by decide +kernel), wG_in 28 (by decide +kernel) (by decide +kernel), by decide, by decide, by decide +kernel⟩
theorem ms_X8_clear : Cond.static yX8_clear ∈ wG := wG_in 896 (by decide +kernel) (by decide +kernel)
theorem mf_X8_clearText : mF yX8_clearText cX8_clearText 2 (some .int) 0 := ⟨wG_in 961 (by decide +kernel) (by decide +kernel), wG_in 28 (by decide +kernel) (by decide +kernel), by decide, by decide, by decide +kernel⟩
theorem mv_X8_clearText : mFV yX8_clearText := ⟨wG_in 959 (by decide +kernel) (by decide +kernel), wG_in 960 (by decide +kernel) (by decide +kernel)⟩
theorem mf_X8_coin : mF yX8_coin cX8_coin 2 (some .int) 1 := ⟨wG_in 1053 (by decide +kernel) (by decide +kernel), wG_in 28 (by decide +kernel) (by decide +kernel), by decide, by decide, by decide +kernel⟩
theorem mv_X8_coin : mFV yX8_coin := ⟨wG_in 1051 (by decide +kernel) (by decide +kernel), wG_in 1052 (by decide +kernel) (by decide +kernel)⟩
theorem mf_X8_coinOf : mF yX8_coinOf cX8_coinOf 4 (some .int) 2 := ⟨wG_in 1059 (by decide +kernel) (by decide +kernel), wG_in 28 (by decide +kernel) (by decide +kernel), by decide, by decide, by decide +kernel⟩
theorem ms_X8_coinOf : Cond.static yX8_coinOf ∈ wG := wG_in 1058 (by decide +kernel) (by decide +kernel)
theorem mf_X8_command : mF yX8_command cX8_command 6 (some .boolean) 2 := ⟨wG_in 1166 (by decide +kernel) (by decide +kernel), wG_in 28 (by decide +kernel) (by decide +kernel), by decide, by decide, by decide +kernel⟩
theorem mv_X8_command : mFV yX8_command := ⟨wG_in 1165 (by decide +kernel) (by decide +kernel), wG_in 17 (by decide +kernel) (by decide +kernel)⟩
theorem mf_X8_copyState : mF yX8_copyState cX8_copyState 5 none 4 := ⟨wG_in 1035 (by decide +kernel) (by decide +kernel), wG_in 28 (by decide +kernel) (by decide +kernel), by decide, by decide, by decide +kernel⟩
theorem ms_X8_copyState : Cond.static yX8_copyState ∈ wG := wG_in 1034 (by decide +kernel) (by decide +kernel)
theorem mf_X8_done : mF yX8_done cX8_done 2 (some .boolean) 1 := ⟨wG_in 1025 (by decide +kernel) (by decide +kernel), wG_in 28 (by decide +kernel) (by decide +kernel), by decide, by decide, by decide +kernel⟩
theorem mv_X8_done : mFV yX8_done := ⟨wG_in 1024 (by decide +kernel) (by decide +kernel), wG_in 13 (by decide +kernel) (by decide +kernel)⟩
theorem mf_X8_errorPosition : mF yX8_errorPosition cX8_errorPosition 1 (some .int) 0 := ⟨wG_in 965 (by decide +kernel) (by decide +kernel), wG_in 28 (by decide +kernel) (by decide +kernel), by decide, by decide, by decide +kernel⟩
theorem mv_X8_errorPosition : mFV yX8_errorPosition := ⟨wG_in 963 (by decide +kernel) (by decide +kernel), wG_in 964 (by decide +kernel) (by decide +kernel)⟩
theorem mf_X8_figures : mF yX8_figures cX8_figures 9 (some .int) 4 := ⟨wG_in 981 (by decide +kernel) (by decide +kernel), wG_in 28 (by decide +kernel) (by decide +kernel), by decide, by decide, by decide +kernel⟩
theorem mv_X8_figures : mFV yX8_figures := ⟨wG_in 980 (by decide +kernel) (by decide +kernel), wG_in 10 (by decide +kernel) (by decide +kernel)⟩
theorem mf_X8_fits : mF yX8_fits cX8_fits 5 (some .boolean) 3 := ⟨wG_in 1049 (by decide +kernel) (by decide +kernel), wG_in 28 (by decide +kernel) (by decide +kernel), by decide, by decide, by decide +kernel⟩
theorem ms_X8_fits : Cond.static yX8_fits ∈ wG := wG_in 1048 (by decide +kernel) (by decide +kernel)
theorem mf_X8_forget : mF yX8_forget cX8_forget 1 (some .int) 0 := ⟨wG_in 1119 (by decide +kernel) (by decide +kernel), wG_in 28 (by decide +kernel) (by decide +kernel), by decide, by decide, by decide +kernel⟩
theorem mv_X8_forget : mFV yX8_forget := ⟨wG_in 1117 (by decide +kernel) (by decide +kernel), wG_in 1118 (by decide +kernel) (by decide +kernel)⟩
theorem mf_X8_forgetOn : mF yX8_forgetOn cX8_forgetOn 1 (some .int) 1 := ⟨wG_in 1122 (by decide +kernel) (by decide +kernel), wG_in 28 (by decide +kernel) (by decide +kernel), by decide, by decide, by decide +kernel⟩
theorem ms_X8_forgetOn : Cond.static yX8_forgetOn ∈ wG := wG_in 1121 (by decide +kernel) (by decide +kernel)
theorem mf_X8_gather : mF yX8_gather cX8_gather 3 none 1 := ⟨wG_in 1134 (by decide +kernel) (by decide +kernel), wG_in 28 (by decide +kernel) (by decide +kernel), by decide, by decide, by decide +kernel⟩
theorem mv_X8_gather : mFV yX8_gather := ⟨wG_in 1133 (by decide +kernel) (by decide +kernel), wG_in 15 (by decide +kernel) (by decide +kernel)⟩
theorem mf_X8_hide : mF yX8_hide cX8_hide 3 (some .int) 2 := ⟨wG_in 1079 (by decide +kernel) (by decide +kernel), wG_in 28 (by decide +kernel) (by decide +kernel), by decide, by decide, by decide +kernel⟩
theorem mv_X8_hide : mFV yX8_hide := ⟨wG_in 1077 (by decide +kernel) (by decide +kernel), wG_in 1078 (by decide +kernel) (by decide +kernel)⟩
theorem mf_X8_hideOn : mF yX8_hideOn cX8_hideOn 3 (some .int) 3 := ⟨wG_in 985 (by decide +kernel) (by decide +kernel), wG_in 28 (by decide +kernel) (by decide +kernel), by decide, by decide, by decide +kernel⟩
theorem ms_X8_hideOn : Cond.static yX8_hideOn ∈ wG := wG_in 984 (by decide +kernel) (by decide +kernel)
theorem mf_X8_in : mF yX8_in cX8_in 6 (some .boolean) 3 := ⟨wG_in 953 (by decide +kernel) (by decide +kernel), wG_in 28 (by decide +kernel) (by decide +kernel), by decide, by decide, by decide +kernel⟩
theorem ms_X8_in : Cond.static yX8_in ∈ wG := wG_in 952 (by decide +kernel) (by decide +kernel)
theorem mf_X8_isArms : mF yX8_isArms cX8_isArms 2 (some .boolean) 2 := ⟨wG_in 1095 (by decide +kernel) (by decide +kernel), wG_in 28 (by decide +kernel) (by decide +kernel), by decide, by decide, by decide +kernel⟩
theorem ms_X8_isArms : Cond.static yX8_isArms ∈ wG := wG_in 1094 (by decide +kernel) (by decide +kernel)
theorem mf_X8_isCoin : mF yX8_isCoin cX8_isCoin 2 (some .boolean) 2 := ⟨wG_in 1056 (by decide +kernel) (by decide +kernel), wG_in 28 (by decide +kernel) (by decide +kernel), by decide, by decide, by decide +kernel⟩
theorem ms_X8_isCoin : Cond.static yX8_isCoin ∈ wG := wG_in 1055 (by decide +kernel) (by decide +kernel)
theorem mf_X8_isCoins : mF yX8_isCoins cX8_isCoins 1 (some .boolean) 1 := ⟨wG_in 1082 (by decide +kernel) (by decide +kernel), wG_in 28 (by decide +kernel) (by decide +kernel), by decide, by decide, by decide +kernel⟩
theorem ms_X8_isCoins : Cond.static yX8_isCoins ∈ wG := wG_in 1081 (by decide +kernel) (by decide +kernel)
theorem mf_X8_isLeft : mF yX8_isLeft cX8_isLeft 2 (some .int) 1 := ⟨wG_in 1070 (by decide +kernel) (by decide +kernel), wG_in 28 (by decide +kernel) (by decide +kernel), by decide, by decide, by decide +kernel⟩
theorem mv_X8_isLeft : mFV yX8_isLeft := ⟨wG_in 1068 (by decide +kernel) (by decide +kernel), wG_in 1069 (by decide +kernel) (by decide +kernel)⟩
theorem mf_X8_isSet : mF yX8_isSet cX8_isSet 2 (some .boolean) 2 := ⟨wG_in 1006 (by decide +kernel) (by decide +kernel), wG_in 28 (by decide +kernel) (by decide +kernel), by decide, by decide, by decide +kernel⟩
theorem ms_X8_isSet : Cond.static yX8_isSet ∈ wG := wG_in 1005 (by decide +kernel) (by decide +kernel)
theorem mf_X8_isWeighing : mF yX8_isWeighing cX8_isWeighing 3 (some .boolean) 3 := ⟨wG_in 1003 (by decide +kernel) (by decide +kernel), wG_in 28 (by decide +kernel) (by decide +kernel), by decide, by decide, by decide +kernel⟩
theorem ms_X8_isWeighing : Cond.static yX8_isWeighing ∈ wG := wG_in 1002 (by decide +kernel) (by decide +kernel)
theorem mf_X8_leaves : mF yX8_leaves cX8_leaves 4 (some .int) 3 := ⟨wG_in 1130 (by decide +kernel) (by decide +kernel), wG_in 28 (by decide +kernel) (by decide +kernel), by decide, by decide, by decide +kernel⟩
theorem mv_X8_leaves : mFV yX8_leaves := ⟨wG_in 1128 (by decide +kernel) (by decide +kernel), wG_in 1129 (by decide +kernel) (by decide +kernel)⟩
theorem mf_X8_leftOf : mF yX8_leftOf cX8_leftOf 1 (some .int) 1 := ⟨wG_in 1043 (by decide +kernel) (by decide +kernel), wG_in 28 (by decide +kernel) (by decide +kernel), by decide, by decide, by decide +kernel⟩
theorem ms_X8_leftOf : Cond.static yX8_leftOf ∈ wG := wG_in 1042 (by decide +kernel) (by decide +kernel)
theorem mf_X8_letters : mF yX8_letters cX8_letters 4 (some .int) 1 := ⟨wG_in 996 (by decide +kernel) (by decide +kernel), wG_in 28 (by decide +kernel) (by decide +kernel), by decide, by decide, by decide +kernel⟩
theorem mv_X8_letters : mFV yX8_letters := ⟨wG_in 995 (by decide +kernel) (by decide +kernel), wG_in 12 (by decide +kernel) (by decide +kernel)⟩
theorem mf_X8_load : mF yX8_load cX8_load 1 (some .int) 0 := ⟨wG_in 1032 (by decide +kernel) (by decide +kernel), wG_in 28 (by decide +kernel) (by decide +kernel), by decide, by decide, by decide +kernel⟩
theorem mv_X8_load : mFV yX8_load := ⟨wG_in 1030 (by decide +kernel) (by decide +kernel), wG_in 1031 (by decide +kernel) (by decide +kernel)⟩
theorem mf_X8_many : mF yX8_many cX8_many 4 (some .int) 2 := ⟨wG_in 1046 (by decide +kernel) (by decide +kernel), wG_in 28 (by decide +kernel) (by decide +kernel), by decide, by decide, by decide +kernel⟩
theorem ms_X8_many : Cond.static yX8_many ∈ wG := wG_in 1045 (by decide +kernel) (by decide +kernel)
theorem mf_X8_needs : mF yX8_needs cX8_needs 1 (some .int) 0 := ⟨wG_in 1150 (by decide +kernel) (by decide +kernel), wG_in 28 (by decide +kernel) (by decide +kernel), by decide, by decide, by decide +kernel⟩
theorem mv_X8_needs : mFV yX8_needs := ⟨wG_in 1148 (by decide +kernel) (by decide +kernel), wG_in 1149 (by decide +kernel) (by decide +kernel)⟩
theorem mf_X8_needsOf : mF yX8_needsOf cX8_needsOf 4 (some .int) 1 := ⟨wG_in 1153 (by decide +kernel) (by decide +kernel), wG_in 28 (by decide +kernel) (by decide +kernel), by decide, by decide, by decide +kernel⟩
theorem ms_X8_needsOf : Cond.static yX8_needsOf ∈ wG := wG_in 1152 (by decide +kernel) (by decide +kernel)
theorem mf_X8_outcome : mF yX8_outcome cX8_outcome 7 (some .int) 5 := ⟨wG_in 1015 (by decide +kernel) (by decide +kernel), wG_in 28 (by decide +kernel) (by decide +kernel), by decide, by decide, by decide +kernel⟩
theorem ms_X8_outcome : Cond.static yX8_outcome ∈ wG := wG_in 1014 (by decide +kernel) (by decide +kernel)
theorem mf_X8_pans : mF yX8_pans cX8_pans 1 (some .int) 0 := ⟨wG_in 1063 (by decide +kernel) (by decide +kernel), wG_in 28 (by decide +kernel) (by decide +kernel), by decide, by decide, by decide +kernel⟩
theorem mv_X8_pans : mFV yX8_pans := ⟨wG_in 1061 (by decide +kernel) (by decide +kernel), wG_in 1062 (by decide +kernel) (by decide +kernel)⟩
theorem mf_X8_pansOf : mF yX8_pansOf cX8_pansOf 3 (some .int) 1 := ⟨wG_in 1066 (by decide +kernel) (by decide +kernel), wG_in 28 (by decide +kernel) (by decide +kernel), by decide, by decide, by decide +kernel⟩
theorem ms_X8_pansOf : Cond.static yX8_pansOf ∈ wG := wG_in 1065 (by decide +kernel) (by decide +kernel)
theorem mf_X8_readCase : mF yX8_readCase cX8_readCase 6 (some .boolean) 1 := ⟨wG_in 977 (by decide +kernel) (by decide +kernel), wG_in 28 (by decide +kernel) (by decide +kernel), by decide, by decide, by decide +kernel⟩
theorem mv_X8_readCase : mFV yX8_readCase := ⟨wG_in 976 (by decide +kernel) (by decide +kernel), wG_in 9 (by decide +kernel) (by decide +kernel)⟩
theorem mf_X8_readCommand : mF yX8_readCommand cX8_readCommand 4 (some .boolean) 1 := ⟨wG_in 992 (by decide +kernel) (by decide +kernel), wG_in 28 (by decide +kernel) (by decide +kernel), by decide, by decide, by decide +kernel⟩
theorem mv_X8_readCommand : mFV yX8_readCommand := ⟨wG_in 991 (by decide +kernel) (by decide +kernel), wG_in 11 (by decide +kernel) (by decide +kernel)⟩
theorem mf_X8_readText : mF yX8_readText cX8_readText 2 (some .int) 1 := ⟨wG_in 969 (by decide +kernel) (by decide +kernel), wG_in 28 (by decide +kernel) (by decide +kernel), by decide, by decide, by decide +kernel⟩
theorem mv_X8_readText : mFV yX8_readText := ⟨wG_in 968 (by decide +kernel) (by decide +kernel), wG_in 7 (by decide +kernel) (by decide +kernel)⟩
theorem mf_X8_refused : mF yX8_refused cX8_refused 2 (some .boolean) 1 := ⟨wG_in 957 (by decide +kernel) (by decide +kernel), wG_in 28 (by decide +kernel) (by decide +kernel), by decide, by decide, by decide +kernel⟩
theorem mv_X8_refused : mFV yX8_refused := ⟨wG_in 956 (by decide +kernel) (by decide +kernel), wG_in 6 (by decide +kernel) (by decide +kernel)⟩
theorem mf_X8_remember : mF yX8_remember cX8_remember 2 none 0 := ⟨wG_in 1088 (by decide +kernel) (by decide +kernel), wG_in 28 (by decide +kernel) (by decide +kernel), by decide, by decide, by decide +kernel⟩
theorem mv_X8_remember : mFV yX8_remember := ⟨wG_in 1087 (by decide +kernel) (by decide +kernel), wG_in 14 (by decide +kernel) (by decide +kernel)⟩
theorem mf_X8_restore : mF yX8_restore cX8_restore 2 (some .int) 1 := ⟨wG_in 1188 (by decide +kernel) (by decide +kernel), wG_in 28 (by decide +kernel) (by decide +kernel), by decide, by decide, by decide +kernel⟩
theorem mv_X8_restore : mFV yX8_restore := ⟨wG_in 1186 (by decide +kernel) (by decide +kernel), wG_in 1187 (by decide +kernel) (by decide +kernel)⟩
theorem mf_X8_runScript : mF yX8_runScript cX8_runScript 8 (some .int) 2 := ⟨wG_in 1161 (by decide +kernel) (by decide +kernel), wG_in 28 (by decide +kernel) (by decide +kernel), by decide, by decide, by decide +kernel⟩
theorem mv_X8_runScript : mFV yX8_runScript := ⟨wG_in 1159 (by decide +kernel) (by decide +kernel), wG_in 1160 (by decide +kernel) (by decide +kernel)⟩
theorem mf_X8_save : mF yX8_save cX8_save 2 (some .int) 1 := ⟨wG_in 1184 (by decide +kernel) (by decide +kernel), wG_in 28 (by decide +kernel) (by decide +kernel), by decide, by decide, by decide +kernel⟩
theorem mv_X8_save : mFV yX8_save := ⟨wG_in 1182 (by decide +kernel) (by decide +kernel), wG_in 1183 (by decide +kernel) (by decide +kernel)⟩
theorem mf_X8_sharpest : mF yX8_sharpest cX8_sharpest 6 (some .int) 0 := ⟨wG_in 1146 (by decide +kernel) (by decide +kernel), wG_in 28 (by decide +kernel) (by decide +kernel), by decide, by decide, by decide +kernel⟩
theorem mv_X8_sharpest : mFV yX8_sharpest := ⟨wG_in 1144 (by decide +kernel) (by decide +kernel), wG_in 1145 (by decide +kernel) (by decide +kernel)⟩
theorem mf_X8_sign : mF yX8_sign cX8_sign 1 (some .int) 0 := ⟨wG_in 973 (by decide +kernel) (by decide +kernel), wG_in 28 (by decide +kernel) (by decide +kernel), by decide, by decide, by decide +kernel⟩
theorem mv_X8_sign : mFV yX8_sign := ⟨wG_in 972 (by decide +kernel) (by decide +kernel), wG_in 8 (by decide +kernel) (by decide +kernel)⟩
theorem mf_X8_simulate : mF yX8_simulate cX8_simulate 7 (some .int) 2 := ⟨wG_in 1174 (by decide +kernel) (by decide +kernel), wG_in 28 (by decide +kernel) (by decide +kernel), by decide, by decide, by decide +kernel⟩
theorem mv_X8_simulate : mFV yX8_simulate := ⟨wG_in 1172 (by decide +kernel) (by decide +kernel), wG_in 1173 (by decide +kernel) (by decide +kernel)⟩
theorem mf_X8_thrown : mF yX8_thrown cX8_thrown 1 (some .int) 0 := ⟨wG_in 945 (by decide +kernel) (by decide +kernel), wG_in 28 (by decide +kernel) (by decide +kernel), by decide, by decide, by decide +kernel⟩
theorem mv_X8_thrown : mFV yX8_thrown := ⟨wG_in 943 (by decide +kernel) (by decide +kernel), wG_in 944 (by decide +kernel) (by decide +kernel)⟩
theorem mf_X8_told : mF yX8_told cX8_told 2 (some .int) 2 := ⟨wG_in 1110 (by decide +kernel) (by decide +kernel), wG_in 28 (by decide +kernel) (by decide +kernel), by decide, by decide, by decide +kernel⟩
theorem ms_X8_told : Cond.static yX8_told ∈ wG := wG_in 1109 (by decide +kernel) (by decide +kernel)
theorem mf_X8_turn : mF yX8_turn cX8_turn 7 none 2 := ⟨wG_in 1180 (by decide +kernel) (by decide +kernel), wG_in 28 (by decide +kernel) (by decide +kernel), by decide, by decide, by decide +kernel⟩
theorem ms_X8_turn : Cond.static yX8_turn ∈ wG := wG_in 1179 (by decide +kernel) (by decide +kernel)
theorem mf_X8_undo : mF yX8_undo cX8_undo 1 (some .int) 0 := ⟨wG_in 1126 (by decide +kernel) (by decide +kernel), wG_in 28 (by decide +kernel) (by decide +kernel), by decide, by decide, by decide +kernel⟩
theorem mv_X8_undo : mFV yX8_undo := ⟨wG_in 1124 (by decide +kernel) (by decide +kernel), wG_in 1125 (by decide +kernel) (by decide +kernel)⟩
theorem mf_X8_weigh : mF yX8_weigh cX8_weigh 3 (some .int) 2 := ⟨wG_in 1100 (by decide +kernel) (by decide +kernel), wG_in 28 (by decide +kernel) (by decide +kernel), by decide, by decide, by decide +kernel⟩
theorem mv_X8_weigh : mFV yX8_weigh := ⟨wG_in 1098 (by decide +kernel) (by decide +kernel), wG_in 1099 (by decide +kernel) (by decide +kernel)⟩
theorem mf_X8_weighOn : mF yX8_weighOn cX8_weighOn 4 (some .int) 3 := ⟨wG_in 1009 (by decide +kernel) (by decide +kernel), wG_in 28 (by decide +kernel) (by decide +kernel), by decide, by decide, by decide +kernel⟩
theorem ms_X8_weighOn : Cond.static yX8_weighOn ∈ wG := wG_in 1008 (by decide +kernel) (by decide +kernel)
theorem mf_X8_weighing : mF yX8_weighing cX8_weighing 3 (some .int) 2 := ⟨wG_in 1074 (by decide +kernel) (by decide +kernel), wG_in 28 (by decide +kernel) (by decide +kernel), by decide, by decide, by decide +kernel⟩
theorem mv_X8_weighing : mFV yX8_weighing := ⟨wG_in 1072 (by decide +kernel) (by decide +kernel), wG_in 1073 (by decide +kernel) (by decide +kernel)⟩
theorem mf_X8_weighs : mF yX8_weighs cX8_weighs 4 (some .boolean) 2 := ⟨wG_in 1170 (by decide +kernel) (by decide +kernel), wG_in 28 (by decide +kernel) (by decide +kernel), by decide, by decide, by decide +kernel⟩
theorem mv_X8_weighs : mFV yX8_weighs := ⟨wG_in 1169 (by decide +kernel) (by decide +kernel), wG_in 18 (by decide +kernel) (by decide +kernel)⟩
theorem mf_X8_weight : mF yX8_weight cX8_weight 3 (some .int) 2 := ⟨wG_in 1018 (by decide +kernel) (by decide +kernel), wG_in 28 (by decide +kernel) (by decide +kernel), by decide, by decide, by decide +kernel⟩
theorem ms_X8_weight : Cond.static yX8_weight ∈ wG := wG_in 1017 (by decide +kernel) (by decide +kernel)
theorem mf_X8_worst : mF yX8_worst cX8_worst 6 (some .int) 4 := ⟨wG_in 1138 (by decide +kernel) (by decide +kernel), wG_in 28 (by decide +kernel) (by decide +kernel), by decide, by decide, by decide +kernel⟩
theorem mv_X8_worst : mFV yX8_worst := ⟨wG_in 1137 (by decide +kernel) (by decide +kernel), wG_in 16 (by decide +kernel) (by decide +kernel)⟩
theorem mf_J11_highSurrogate_5068e : mF yJ11_highSurrogate_5068e cJ11_highSurrogate_5068e 1 (some .char) 1 := ⟨wG_in 378 (by decide +kernel) (by decide +kernel), wG_in 39 (by decide +kernel) (by decide +kernel), by decide, by decide, by decide +kernel⟩
theorem ms_J11_highSurrogate_5068e : Cond.static yJ11_highSurrogate_5068e ∈ wG := wG_in 377 (by decide +kernel) (by decide +kernel)
theorem mf_J11_isValidCodePoint_9a6ad : mF yJ11_isValidCodePoint_9a6ad cJ11_isValidCodePoint_9a6ad 2 (some .boolean) 1 := ⟨wG_in 375 (by decide +kernel) (by decide +kernel), wG_in 39 (by decide +kernel) (by decide +kernel), by decide, by decide, by decide +kernel⟩
theorem ms_J11_isValidCodePoint_9a6ad : Cond.static yJ11_isValidCodePoint_9a6ad ∈ wG := wG_in 374 (by decide +kernel) (by decide +kernel)
theorem mf_J11_lowSurrogate_5068e : mF yJ11_lowSurrogate_5068e cJ11_lowSurrogate_5068e 1 (some .char) 1 := ⟨wG_in 382 (by decide +kernel) (by decide +kernel), wG_in 39 (by decide +kernel) (by decide +kernel), by decide, by decide, by decide +kernel⟩
theorem ms_J11_lowSurrogate_5068e : Cond.static yJ11_lowSurrogate_5068e ∈ wG := wG_in 381 (by decide +kernel) (by decide +kernel)
theorem mf_J6_bitCount_0f7a4 : mF yJ6_bitCount_0f7a4 cJ6_bitCount_0f7a4 1 (some .int) 1 := ⟨wG_in 434 (by decide +kernel) (by decide +kernel), wG_in 40 (by decide +kernel) (by decide +kernel), by decide, by decide, by decide +kernel⟩
theorem ms_J6_bitCount_0f7a4 : Cond.static yJ6_bitCount_0f7a4 ∈ wG := wG_in 433 (by decide +kernel) (by decide +kernel)
theorem mf_J9_max_7cf53 : mF yJ9_max_7cf53 cJ9_max_7cf53 2 (some .int) 2 := ⟨wG_in 328 (by decide +kernel) (by decide +kernel), wG_in 36 (by decide +kernel) (by decide +kernel), by decide, by decide, by decide +kernel⟩
theorem ms_J9_max_7cf53 : Cond.static yJ9_max_7cf53 ∈ wG := wG_in 327 (by decide +kernel) (by decide +kernel)
theorem mf_J9_min_7cf53 : mF yJ9_min_7cf53 cJ9_min_7cf53 2 (some .int) 2 := ⟨wG_in 331 (by decide +kernel) (by decide +kernel), wG_in 36 (by decide +kernel) (by decide +kernel), by decide, by decide, by decide +kernel⟩
theorem ms_J9_min_7cf53 : Cond.static yJ9_min_7cf53 ∈ wG := wG_in 330 (by decide +kernel) (by decide +kernel)
theorem mf_J0_checkBoundsBeginEnd_23922 : mF yJ0_checkBoundsBeginEnd_23922 cJ0_checkBoundsBeginEnd_23922 3 none 3 := ⟨wG_in 352 (by decide +kernel) (by decide +kernel), wG_in 34 (by decide +kernel) (by decide +kernel), by decide, by decide, by decide +kernel⟩
theorem ms_J0_checkBoundsBeginEnd_23922 : Cond.static yJ0_checkBoundsBeginEnd_23922 ∈ wG := wG_in 351 (by decide +kernel) (by decide +kernel)
theorem mf_J0_coder_7d493 : mF yJ0_coder_7d493 cJ0_coder_7d493 1 (some .byte) 0 := ⟨wG_in 319 (by decide +kernel) (by decide +kernel), wG_in 34 (by decide +kernel) (by decide +kernel), by decide, by decide, by decide +kernel⟩
theorem mv_J0_coder_7d493 : mFV yJ0_coder_7d493 := ⟨wG_in 317 (by decide +kernel) (by decide +kernel), wG_in 318 (by decide +kernel) (by decide +kernel)⟩
theorem mf_J0_indexOf_0f7a4 : mF yJ0_indexOf_0f7a4 cJ0_indexOf_0f7a4 2 (some .int) 1 := ⟨wG_in 301 (by decide +kernel) (by decide +kernel), wG_in 34 (by decide +kernel) (by decide +kernel), by decide, by decide, by decide +kernel⟩
theorem mv_J0_indexOf_0f7a4 : mFV yJ0_indexOf_0f7a4 := ⟨wG_in 299 (by decide +kernel) (by decide +kernel), wG_in 300 (by decide +kernel) (by decide +kernel)⟩
theorem mf_J0_indexOf_7cf53 : mF yJ0_indexOf_7cf53 cJ0_indexOf_7cf53 3 (some .int) 2 := ⟨wG_in 305 (by decide +kernel) (by decide +kernel), wG_in 34 (by decide +kernel) (by decide +kernel), by decide, by decide, by decide +kernel⟩
theorem mv_J0_indexOf_7cf53 : mFV yJ0_indexOf_7cf53 := ⟨wG_in 303 (by decide +kernel) (by decide +kernel), wG_in 304 (by decide +kernel) (by decide +kernel)⟩
theorem mf_J0_isLatin1_aae02 : mF yJ0_isLatin1_aae02 cJ0_isLatin1_aae02 1 (some .boolean) 0 := ⟨wG_in 309 (by decide +kernel) (by decide +kernel), wG_in 34 (by decide +kernel) (by decide +kernel), by decide, by decide, by decide +kernel⟩
theorem mv_J0_isLatin1_aae02 : mFV yJ0_isLatin1_aae02 := ⟨wG_in 307 (by decide +kernel) (by decide +kernel), wG_in 308 (by decide +kernel) (by decide +kernel)⟩
theorem mf_J0_length_8abf5 : mF yJ0_length_8abf5 cJ0_length_8abf5 1 (some .int) 0 := ⟨wG_in 315 (by decide +kernel) (by decide +kernel), wG_in 34 (by decide +kernel) (by decide +kernel), by decide, by decide, by decide +kernel⟩
theorem mv_J0_length_8abf5 : mFV yJ0_length_8abf5 := ⟨wG_in 313 (by decide +kernel) (by decide +kernel), wG_in 314 (by decide +kernel) (by decide +kernel)⟩
theorem mf_J1_canEncode_9a6ad : mF yJ1_canEncode_9a6ad cJ1_canEncode_9a6ad 1 (some .boolean) 1 := ⟨wG_in 325 (by decide +kernel) (by decide +kernel), wG_in 35 (by decide +kernel) (by decide +kernel), by decide, by decide, by decide +kernel⟩
theorem ms_J1_canEncode_9a6ad : Cond.static yJ1_canEncode_9a6ad ∈ wG := wG_in 324 (by decide +kernel) (by decide +kernel)
theorem mf_J1_indexOf_4cfef : mF yJ1_indexOf_4cfef cJ1_indexOf_4cfef 4 (some .int) 4 := ⟨wG_in 322 (by decide +kernel) (by decide +kernel), wG_in 35 (by decide +kernel) (by decide +kernel), by decide, by decide, by decide +kernel⟩
theorem ms_J1_indexOf_4cfef : Cond.static yJ1_indexOf_4cfef ∈ wG := wG_in 321 (by decide +kernel) (by decide +kernel)
theorem mf_J1_indexOfChar_4cfef : mF yJ1_indexOfChar_4cfef cJ1_indexOfChar_4cfef 6 (some .int) 4 := ⟨wG_in 334 (by decide +kernel) (by decide +kernel), wG_in 35 (by decide +kernel) (by decide +kernel), by decide, by decide, by decide +kernel⟩
theorem ms_J1_indexOfChar_4cfef : Cond.static yJ1_indexOfChar_4cfef ∈ wG := wG_in 333 (by decide +kernel) (by decide +kernel)
theorem mf_J2_checkBoundsBeginEnd_d044e : mF yJ2_checkBoundsBeginEnd_d044e cJ2_checkBoundsBeginEnd_d044e 3 none 3 := ⟨wG_in 346 (by decide +kernel) (by decide +kernel), wG_in 37 (by decide +kernel) (by decide +kernel), by decide, by decide, by decide +kernel⟩
theorem ms_J2_checkBoundsBeginEnd_d044e : Cond.static yJ2_checkBoundsBeginEnd_d044e ∈ wG := wG_in 345 (by decide +kernel) (by decide +kernel)
theorem mf_J2_getChar_3b067 : mF yJ2_getChar_3b067 cJ2_getChar_3b067 2 (some .char) 2 := ⟨wG_in 363 (by decide +kernel) (by decide +kernel), wG_in 37 (by decide +kernel) (by decide +kernel), by decide, by decide, by decide +kernel⟩
theorem ms_J2_getChar_3b067 : Cond.static yJ2_getChar_3b067 ∈ wG := wG_in 362 (by decide +kernel) (by decide +kernel)
theorem mf_J2_indexOf_4cfef : mF yJ2_indexOf_4cfef cJ2_indexOf_4cfef 4 (some .int) 4 := ⟨wG_in 337 (by decide +kernel) (by decide +kernel), wG_in 37 (by decide +kernel) (by decide +kernel), by decide, by decide, by decide +kernel⟩
theorem ms_J2_indexOf_4cfef : Cond.static yJ2_indexOf_4cfef ∈ wG := wG_in 336 (by decide +kernel) (by decide +kernel)
theorem mf_J2_indexOfChar_4cfef : mF yJ2_indexOfChar_4cfef cJ2_indexOfChar_4cfef 4 (some .int) 4 := ⟨wG_in 343 (by decide +kernel) (by decide +kernel), wG_in 37 (by decide +kernel) (by decide +kernel), by decide, by decide, by decide +kernel⟩
theorem ms_J2_indexOfChar_4cfef : Cond.static yJ2_indexOfChar_4cfef ∈ wG := wG_in 342 (by decide +kernel) (by decide +kernel)
theorem mf_J2_indexOfCharUnsafe_4cfef : mF yJ2_indexOfCharUnsafe_4cfef cJ2_indexOfCharUnsafe_4cfef 5 (some .int) 4 := ⟨wG_in 360 (by decide +kernel) (by decide +kernel), wG_in 37 (by decide +kernel) (by decide +kernel), by decide, by decide, by decide +kernel⟩
theorem ms_J2_indexOfCharUnsafe_4cfef : Cond.static yJ2_indexOfCharUnsafe_4cfef ∈ wG := wG_in 359 (by decide +kernel) (by decide +kernel)
theorem mf_J2_indexOfSupplementary_4cfef : mF yJ2_indexOfSupplementary_4cfef cJ2_indexOfSupplementary_4cfef 7 (some .int) 4 := ⟨wG_in 372 (by decide +kernel) (by decide +kernel), wG_in 37 (by decide +kernel) (by decide +kernel), by decide, by decide, by decide +kernel⟩
theorem ms_J2_indexOfSupplementary_4cfef : Cond.static yJ2_indexOfSupplementary_4cfef ∈ wG := wG_in 371 (by decide +kernel) (by decide +kernel)
theorem mf_J2_length_9d52b : mF yJ2_length_9d52b cJ2_length_9d52b 1 (some .int) 1 := ⟨wG_in 349 (by decide +kernel) (by decide +kernel), wG_in 37 (by decide +kernel) (by decide +kernel), by decide, by decide, by decide +kernel⟩
theorem ms_J2_length_9d52b : Cond.static yJ2_length_9d52b ∈ wG := wG_in 348 (by decide +kernel) (by decide +kernel)
theorem mf_J3_checkFromToIndex_8c36e : mF yJ3_checkFromToIndex_8c36e cJ3_checkFromToIndex_8c36e 4 (some .int) 4 := ⟨wG_in 357 (by decide +kernel) (by decide +kernel), wG_in 38 (by decide +kernel) (by decide +kernel), by decide, by decide, by decide +kernel⟩
theorem ms_J3_checkFromToIndex_8c36e : Cond.static yJ3_checkFromToIndex_8c36e ∈ wG := wG_in 356 (by decide +kernel) (by decide +kernel)
theorem mw_max : Cond.static Lib.Math.max.name ∈ wG ∧ Cond.initialized "java/lang/Math" ∈ wG ∧ Cond.code Lib.Math.max.name Lib.Math.max.code 2 (some .int) ∈ wG := ⟨wG_in 327 (by decide +kernel) (by decide +kernel), wG_in 36 (by decide +kernel) (by decide +kernel), wG_in 328 (by decide +kernel) (by decide +kernel)⟩
theorem mw_min : Cond.static Lib.Math.min.name ∈ wG ∧ Cond.initialized "java/lang/Math" ∈ wG ∧ Cond.code Lib.Math.min.name Lib.Math.min.code 2 (some .int) ∈ wG := ⟨wG_in 330 (by decide +kernel) (by decide +kernel), wG_in 36 (by decide +kernel) (by decide +kernel), wG_in 331 (by decide +kernel) (by decide +kernel)⟩
/-! ===== the kinds of groups: what a class's cells hold ===== -/
abbrev Fn : Type := Nat → Int32
abbrev SCv : Type := Int32 × Int32 × Int32 × Int32 × Int32 × Int32
abbrev TAv : Type := Int32 × Int32 × Int32
abbrev TBv : Type := Int32 × Int32 × Int32 × Int32 × Int32 × Int32 × Int32 × Fn
abbrev TXv : Type := Int32 × Int32 × Int32 × Int32 × Int32 × Int32 × Int32 × Int32 × Fn
abbrev HIv : Type := Int32 × Int32
abbrev MOv : Type := Int32 × Int32 × Int32 × Int32 × Int32 × Int32
abbrev SC (a0 : Nat) (v : SCv) : va_W := [(a0, .inr (1, [.int v.1, .int v.2.1, .int v.2.2.1, .int v.2.2.2.1, .int v.2.2.2.2.1, .int v.2.2.2.2.2]))]
abbrev TA (a0 : Nat) (v : TAv) : va_W := [(a0, .inr (5, [.int v.1, .int v.2.1, .int v.2.2]))]
abbrev SU (cy : Nat → ClassId) (a0 a1 : Nat) (v : Fn) : va_W := [(a0, .inr (3, [.ref a1])), (a1, .inl (cy 0, 6, .inl (v)))]
abbrev TB (cy : Nat → ClassId) (a0 a1 a2 a3 : Nat) (v : TBv) : va_W := [(a0, .inr (4, [.int v.1, .int v.2.1, .int v.2.2.1, .int v.2.2.2.1, .int v.2.2.2.2.1, .int v.2.2.2.2.2.1, .int v.2.2.2.2.2.2.1, .ref a1, .ref a2, .ref a3])), (a1, .inl (cy 0, 120, .inl (v.2.2.2.2.2.2.2)))]
abbrev TX (cy : Nat → ClassId) (a0 a1 : Nat) (v : TXv) : va_W := [(a0, .inr (6, [.ref a1, .int v.1, .int v.2.1, .int v.2.2.1, .int v.2.2.2.1, .int v.2.2.2.2.1, .int v.2.2.2.2.2.1, .int v.2.2.2.2.2.2.1, .int v.2.2.2.2.2.2.2.1])), (a1, .inl (cy 1, 120, .inl (v.2.2.2.2.2.2.2.2)))]
abbrev FP (a0 a1 a2 a3 a4 a5 a6 a7 a8 a9 : Nat) : va_W := [(a0, .inr (7, [.ref a1, .ref a2, .ref a3, .ref a4, .ref a5, .ref a6, .ref a7, .ref a8, .ref a9]))]
abbrev SL (a0 a1 : Nat) (v : Int32) : va_W := [(a0, .inr (2, [.ref a1, .int v]))]
abbrev HI (a0 a1 : Nat) (v : HIv) : va_W := [(a0, .inr (0, [.ref a1, .int v.1, .int v.2]))]
abbrev MO (a0 a1 a2 a3 a4 a5 a6 a7 a8 : Nat) (v : MOv) : va_W := [(a0, .inr (8, [.int v.1, .ref a1, .int v.2.1, .ref a2, .ref a3, .ref a4, .int v.2.2.1, .ref a5, .ref a6, .ref a7, .int v.2.2.2.1, .ref a8, .int v.2.2.2.2.1, .int v.2.2.2.2.2]))]
abbrev AI (cy : Nat → ClassId) (n : Nat) (a0 : Nat) (v : Fn) : va_W := [(a0, .inl (cy 0, n, .inl (v)))]
abbrev AZ (cy : Nat → ClassId) (n : Nat) (a0 : Nat) (v : Fn) : va_W := [(a0, .inl (cy 2, n, .inl (v)))]
abbrev AL (cy : Nat → ClassId) (n : Nat) (a0 : Nat) (v : Nat → Int64) : va_W := [(a0, .inl (cy 4, n, .inr (.inl (v))))]
end
section
/-! ===== String constants: fields, bytes, receivers ===== -/
section GWS
variable {p : Program} {l : Launch} {e : Env} {R : Room} {s : State} {m : MethodId} {args : Array Value} {below : List Frame} {meth : Method} {c : Code} {cells slots : Nat} {Q : State → Prop} {A : Nat → Prop} {D : va_G} {cy : Nat → ClassId} {ad : (Nat → Nat) × (Nat → Nat)} {cc : ByteArray} {nL : Nat} {own : String} {pc : Nat} {lv : List (Nat × Value)} {st rest : List Value} {gs : List va_W}
theorem g_scoder (X : gK p s m args meth c A D cy ad cc nL own) {index i : Nat} (d : decode cc pc = .ok (.getfield index, 3)) (hi : i < 5) (hlink : Cond.fieldLink own index "java/lang/String" "coder" "B" ∈ wG) (K : GW p l e R s m args below meth c A D nL cells slots Q (pc + 3) lv (.int 0 :: st) gs) : GW p l e R s m args below meth c A D nL cells slots Q pc lv (.ref (ad.1 i) :: st) gs := fun H locs ls hP hD hS hl =>
  vk_getf X.1 X.2.1 (X.2.2.2.2.2.2.2.2.1 i hi).2.1 hS X.2.2.2.1 (X.2.2.2.2.1 _ hlink) (fun _ h => h) d (K H locs ls hP hD hS hl)
theorem g_svalue (X : gK p s m args meth c A D cy ad cc nL own) {index i : Nat} (d : decode cc pc = .ok (.getfield index, 3)) (hi : i < 5) (hlink : Cond.fieldLink own index "java/lang/String" "value" "[B" ∈ wG) (K : GW p l e R s m args below meth c A D nL cells slots Q (pc + 3) lv (.ref (ad.2 i) :: st) gs) : GW p l e R s m args below meth c A D nL cells slots Q pc lv (.ref (ad.1 i) :: st) gs := fun H locs ls hP hD hS hl =>
  vk_getf X.1 X.2.1 (X.2.2.2.2.2.2.2.2.1 i hi).2.2.1 hS X.2.2.2.1 (X.2.2.2.2.1 _ hlink) (fun _ h => h) d (K H locs ls hP hD hS hl)
theorem g_scompact (X : gK p s m args meth c A D cy ad cc nL own) {index : Nat} (d : decode cc pc = .ok (.getstatic index, 3)) (hlink : Cond.fieldLink own index "java/lang/String" "COMPACT_STRINGS" "Z" ∈ wG) (K : GW p l e R s m args below meth c A D nL cells slots Q (pc + 3) lv (.int 1 :: st) gs) : GW p l e R s m args below meth c A D nL cells slots Q pc lv st gs := fun H locs ls hP hD hS hl =>
  va_gets X.1 X.2.1 X.2.2.2.2.2.2.2.2.2.2.1 hS X.2.2.2.1 (X.2.2.2.2.1 _ hlink) (fun _ h => h) d (K H locs ls hP hD hS hl)
theorem g_slen (X : gK p s m args meth c A D cy ad cc nL own) {i : Nat} (d : decode cc pc = .ok (.arraylength, 1)) (hi : i < 5) (K : GW p l e R s m args below meth c A D nL cells slots Q (pc + 1) lv (.int (Int32.ofNat (stB i).length) :: st) gs) : GW p l e R s m args below meth c A D nL cells slots Q pc lv (.ref (ad.2 i) :: st) gs := fun H locs ls hP hD hS hl => by
  obtain ⟨cell, h1, h2, h3, h4, h5, h6, h7⟩ := (X.2.2.2.2.2.2.2.2.1 i hi).2.2.2.kept hS.2.1
  exact W.alen X.1 X.2.1 h1 h2 h5 rfl rfl d (K H locs ls hP hD hS hl)
theorem g_sbaload (X : gK p s m args meth c A D cy ad cc nL own) {i : Nat} {k : Int32} (d : decode cc pc = .ok (.baload, 1)) (hi : i < 5) (hin : ¬ (k < 0 ∨ (stB i).length ≤ k.toNatClampNeg)) (K : GW p l e R s m args below meth c A D nL cells slots Q (pc + 1) lv (.int ((stB i).getD k.toNatClampNeg 0) :: st) gs) : GW p l e R s m args below meth c A D nL cells slots Q pc lv (.int k :: .ref (ad.2 i) :: st) gs := fun H locs ls hP hD hS hl => by
  obtain ⟨cell, h1, h2, h3, h4, h5, h6, h7⟩ := (X.2.2.2.2.2.2.2.2.1 i hi).2.2.2.kept hS.2.1
  have hk : k.toNatClampNeg < (stB i).length := Nat.lt_of_not_le (fun z => hin (Or.inr z))
  exact W.bald X.1 X.2.1 h1 h2 h3 (fun z => z.elim (fun z => hin (Or.inl z)) (fun z => by omega)) (h6 _ hk) rfl rfl d (K H locs ls hP hD hS hl)
theorem g_ldcS (X : gK p s m args meth c A D cy ad cc nL own) {index : Nat} (i : Nat) (hi : i < 28) (ho : stO i = own) (hk : stK i = index) (d : decode cc pc = .ok (.ldc index, 2)) (K : GW p l e R s m args below meth c A D nL cells slots Q (pc + 2) lv (.ref (ad.1 i) :: st) gs) : GW p l e R s m args below meth c A D nL cells slots Q pc lv st gs := fun H locs ls hP hD hS hl =>
  va_ldcS X.1 X.2.1 X.2.2.2.1 (ho ▸ hk ▸ X.2.2.2.2.2.2.2.2.2.1 i hi) d (K H locs ls hP hD hS hl)
theorem g_callVS (X : gK p s m args meth c A D cy ad cc nL own) {index : Nat} {y : MethodName} {bytes : ByteArray} {maxL : Nat} {ret : Option FieldType} {rm : Room} {As : List Value} {gc gc' gs' : List va_W} {rv : Option Value} {i : Nat} (hi : i < 5) (d : decode cc pc = .ok (.invokevirtual index, 3)) (hM : CM l y bytes maxL ret rm D cy ad (.ref (ad.1 i) :: As) gc rv gc') (hm : mF y bytes maxL ret As.length) (hv : mFV y) (hlink : Cond.methodLink own index y ∈ wG) (hR : rm.frames + 1 ≤ R.frames ∧ 8 + (maxL + 11) + rm.locals ≤ R.locals ∧ cells + rm.cells ≤ R.cells ∧ slots + rm.slots ≤ R.slots) (r4 : "java/lang/String" = y.cls)
    (is : List Nat) (gr : List va_W) (hp : is.Perm (List.range gs.length)) (h1 : is.filterMap (fun i => gs[i]?) = gc ++ gr) (hp' : is.Perm (List.range gs'.length)) (h2 : is.filterMap (fun i => gs'[i]?) = gc' ++ gr) (hW : (rest.map fun v => v.category).sum ≤ 8) (hst : st = As.reverse ++ .ref (ad.1 i) :: rest) (K : GW p l e R s m args below meth c A D nL (cells + rm.cells) (slots + rm.slots) Q (pc + 3) lv (rv.toList ++ rest) gs') : GW p l e R s m args below meth c A D nL cells slots Q pc lv st gs := by
  intro H locs ls hP hD hS hl
  subst hst
  have q1 := gp_pick hp h1
  have q2 := gp_pick hp' h2
  obtain ⟨cell, e1, e2, e3, -⟩ := (X.2.2.2.2.2.2.2.2.1 i hi).1.kept hS.2.1
  have hr := va_runV (g := F0 m pc ls (As.reverse ++ .ref (ad.1 i) :: rest)) (rest := rest) (R := R) (cells := cells) (slots := slots) (below := below) (meth := meth) (e := e) (locs := locs) (n := As.length) (C := y.cls) (index := index) (bytes := bytes) (maxL := maxL) (ret := ret) ⟨X.1, X.2.1, X.2.2.1, X.2.2.2.1, X.2.2.2.2.1⟩ (hM H.size)
    ⟨callB_of As.length X.2.2.2.2.1 (gW_good hm.1) rfl rfl rfl (X.2.2.2.2.1 _ hm.2.1) (X.2.2.2.2.1 _ hlink) hm.2.2 ⟨hR.1, hR.2.1⟩, X.2.2.2.2.1 _ hv.1, X.2.2.2.2.1 _ hv.2⟩
    ⟨cmP_blind, ⟨cell, e1, e2, r4 ▸ e3⟩, g_pre X q1 hP hD hS _⟩ rfl rfl hl.1 rfl (lv_room hW) d ⟨hR.2.2.1, hR.2.2.2⟩
  exact g_back (y := y) (av := .ref (ad.1 i) :: As) (g := F0 m pc ls (As.reverse ++ .ref (ad.1 i) :: rest)) X q1 q2.symm hP hD hS hl hr K
end GWS
theorem lks_38 : Cond.fieldLink RJ0 38 "java/lang/String" "COMPACT_STRINGS" "Z" ∈ wG := wG_in 310 (by decide +kernel) (by decide +kernel)
theorem lks_15 : Cond.fieldLink RJ0 15 "java/lang/String" "coder" "B" ∈ wG := wG_in 1192 (by decide +kernel) (by decide +kernel)
theorem lks_9 : Cond.fieldLink RJ0 9 "java/lang/String" "value" "[B" ∈ wG := wG_in 1193 (by decide +kernel) (by decide +kernel)
end
section
/-! ===== methods that return or throw ===== -/
abbrev xRes : Type := (Option Value × List va_W) ⊕ (Nat × List va_W)
def xmQ (D : va_G) (cy : Nat → ClassId) (A : Nat → Prop) (res : xRes) : Array Value → State → Outcome → State → Prop := fun a st o t => ∃ rv w1, res = .inl (rv, w1) ∧ cmQ D cy A rv w1.flatten a st o t
def xmX (D : va_G) (cy : Nat → ClassId) (A : Nat → Prop) (res : xRes) : String → State → State → Prop := fun E st t => ∃ k w1, res = .inr (k, w1) ∧ E = exN k ∧ (va_P D vwCl w1.flatten t.heap ∧ va_K D vwCl (tyG cy) t ∧ va_D A w1.flatten) ∧ va_F A st t
def XM (l : Launch) (y : MethodName) (cc : ByteArray) (maxL : Nat) (ret : Option FieldType) (rm : Room) (D : va_G) (cy : Nat → ClassId) (ad : (Nat → Nat) × (Nat → Nat)) (av : List Value) (g0 : List va_W) (res : xRes) : Prop :=
  ∀ sz, vx_Met l y (gW y cc maxL ret) rm (cmP D cy ad sz av g0.flatten) (xmQ D cy (va_A g0.flatten sz) res) (xmX D cy (va_A g0.flatten sz) res) rm.cells rm.slots (va_A g0.flatten sz)
theorem xm_of {l : Launch} {y : MethodName} {cc : ByteArray} {maxL : Nat} {ret : Option FieldType} {rm : Room} {D : va_G} {cy : Nat → ClassId} {ad : (Nat → Nat) × (Nat → Nat)} {av : List Value} {g0 : List va_W} {res : xRes} {lv0 : List (Nat × Value)}
    (hy : plainName y.cls = true) (hlen : (lg_sl av).length ≤ maxL) (hlv : lv_args 0 av = lv0)
    (body : ∀ {p : Program} {e : Env} {s : State} {m : MethodId} {args : Array Value} {below : List Frame} {meth : Method} {c : Code} {A : Nat → Prop}, gK p s m args meth c A D cy ad cc maxL y.cls → meth.sig.returnType = ret → (∀ x ∈ c.exceptionTable.toList, False) →
      GW p l e rm s m args below meth c A D maxL 0 0 (vx_MQ below (xmQ D cy A res) (xmX D cy A res) args s rm.cells rm.slots A) 0 lv0 [] g0) : XM l y cc maxL ret rm D cy ad av g0 res := by
  intro sz
  refine vx_ofW (cc := cc) (maxL := maxL) (ret := ret) hy rfl ?_
  intro p e s m args below meth c s₁ B hml hne hv
  obtain ⟨rfl, hsz, hP, hK, hD0, hE⟩ := hv
  subst hsz
  have hD := hD0.self (sz := s.heap.size)
  have X : gK p s m av.toArray meth c (va_A g0.flatten s.heap.size) D cy ad cc maxL y.cls :=
    ⟨B.exec, B.bytes, hml, findClass_of_methodNamed B.named, fun w h => atoms_spec (ws := gW y cc maxL ret) B.pre w (List.mem_cons_of_mem _ h), hK, fun q h => Or.inr h, B.notSynchronized, hE⟩
  have hl := lv_entry av (n := maxL) hlen
  rw [hlv] at hl
  rw [lg_entry_eq]
  exact body X B.returns hne _ _ _ hP hD va_S.rf hl
def exNames : List String := ["java/lang/RuntimeException", "java/lang/Exception"]
def xB : List Cond := caTab.map (fun q => Cond.castable q q) ++ deTab.map (fun q => Cond.declares q)
/-- what a throw needs of the words -/
def xW (own : String) (ik ic k : Nat) : Prop :=
  Cond.classLink own ik (exN k) ∈ wG ∧ Cond.initialized (exN k) ∈ wG ∧ (∀ w ∈ (vx_atS own ic (exN k) exNames).filter goodWord, w ∈ wG) ∧ (∀ w ∈ (vx_atS own ic (exN k) exNames).filter (fun w => !goodWord w), w ∈ xB) ∧
  (∀ w ∈ Cond.classLink own ik (exN k) :: Cond.initialized (exN k) :: vx_atS own ic (exN k) exNames, vx_ot w = true) ∧ Bundle.fit (exN k) = true
section GWT
variable {p : Program} {l : Launch} {e : Env} {R : Room} {s : State} {m : MethodId} {args : Array Value} {below : List Frame} {meth : Method} {c : Code} {cells slots : Nat} {Q : State → Prop} {A : Nat → Prop} {D : va_G} {cy : Nat → ClassId} {ad : (Nat → Nat) × (Nat → Nat)} {cc : ByteArray} {nL : Nat} {own : String} {pc : Nat} {lv : List (Nat × Value)} {st rest : List Value} {gs : List va_W}
theorem xB_ok (X : gK p s m args meth c A D cy ad cc nL own) : ∀ w ∈ xB, w.before args s = true := by
  intro w hw
  rcases List.mem_append.mp hw with h | h
  · obtain ⟨q, hq, rfl⟩ := List.mem_map.mp h
    exact va_Nw.use rfl (X.2.2.2.2.2.2.2.2.2.2.2.2.2.2.1 q hq)
  · obtain ⟨q, hq, rfl⟩ := List.mem_map.mp h
    exact va_Nw.use rfl (X.2.2.2.2.2.2.2.2.2.2.2.2.2.2.2.2 q hq)
theorem xF {H : Heap} {locs : List Loc} {t : State} (hS : va_S A s.heap H locs) (hz : H.size ≤ t.heap.size) (hk : ∀ q : Nat, q < H.size → t.heap[q]? = H[q]?) : va_F A s t :=
  ⟨Nat.le_trans hS.1 hz, fun q h1 h2 => by rw [hk q (Nat.lt_of_lt_of_le h1 hS.1)]; exact hS.2.1 q h1 h2⟩
theorem g_throwS {mc ms : Nat} (X : gK p s m args meth c A D cy ad cc nL own) (hne : ∀ x ∈ c.exceptionTable.toList, False) (hfl : l.stackTraces = false) {ik is ic : Nat} (k i : Nat) (hi : i < 28) (ho : stO i = own) (hk : stK i = is)
    (d0 : decode cc pc = .ok (.new ik, 3)) (d3 : decode cc (pc + 3) = .ok (.dup, 1)) (d4 : decode cc (pc + 4) = .ok (.ldc is, 2)) (d6 : decode cc (pc + 6) = .ok (.invokespecial ic, 3)) (d9 : decode cc (pc + 9) = .ok (.athrow, 1)) (hw : xW own ik ic k)
    (hR : 5 < R.frames ∧ (st.map fun v => v.category).sum + 82 ≤ R.locals ∧ cells + 1 ≤ R.cells ∧ slots + 6 ≤ R.slots) (hm : cells + 1 ≤ mc ∧ slots + 6 ≤ ms) : GW p l e R s m args below meth c A D nL cells slots (vx_MQ below (xmQ D cy A (.inr (k, gs))) (xmX D cy A (.inr (k, gs))) args s mc ms A) pc lv st gs := by
  intro H locs ls hP hD hS hl
  have hE := X.2.2.2.2.2.2.2.2
  refine vx_throwS (cls := exN k) (names := exNames) (sa := ad.1 i) (text := stT i) (own := own) (A := A) X.1 X.2.1 hfl X.2.2.2.1 hw.2.2.2.2.2 (by decide) (X.2.2.2.2.1 _ hw.1) (X.2.2.2.2.1 _ hw.2.1) (ho ▸ hk ▸ hE.2.1 i hi)
    (vx_hat (fun w h => X.2.2.2.2.1 _ (hw.2.2.1 w h)) hw.2.2.2.1 (xB_ok X)) hw.2.2.2.2.1 hE.2.2.2.1 hE.2.2.2.2.1 hS (hl.1.trans X.2.2.1.symm) d0 d3 d4 d6 d9 (fun x h => (hne x h).elim) hR.1 hR.2.1 hR.2.2.1 hR.2.2.2 X.2.2.2.2.2.2.2.1 (fun t hW hz hk9 => ?_) hS.2.2 hm.1 hm.2
  exact ⟨k, gs, rfl, rfl, ⟨hP.kept (fun j q hj => hk9 _ (hP j q hj).lt), va_K.moved hW X.2.2.2.2.2.1, hD⟩, xF hS hz hk9⟩
theorem g_throwSW {mc ms : Nat} (X : gK p s m args meth c A D cy ad cc nL own) (hne : ∀ x ∈ c.exceptionTable.toList, False) (hfl : l.stackTraces = false) {ik is ic : Nat} (k i : Nat) (hi : i < 28) (ho : stO i = own) (hk : stK i = is)
    (d0 : decode cc pc = .ok (.new ik, 3)) (d3 : decode cc (pc + 3) = .ok (.dup, 1)) (d4 : decode cc (pc + 4) = .ok (.ldc_w is, 3)) (d6 : decode cc (pc + 7) = .ok (.invokespecial ic, 3)) (d9 : decode cc (pc + 10) = .ok (.athrow, 1)) (hw : xW own ik ic k)
    (hR : 5 < R.frames ∧ (st.map fun v => v.category).sum + 82 ≤ R.locals ∧ cells + 1 ≤ R.cells ∧ slots + 6 ≤ R.slots) (hm : cells + 1 ≤ mc ∧ slots + 6 ≤ ms) : GW p l e R s m args below meth c A D nL cells slots (vx_MQ below (xmQ D cy A (.inr (k, gs))) (xmX D cy A (.inr (k, gs))) args s mc ms A) pc lv st gs := by
  intro H locs ls hP hD hS hl
  have hE := X.2.2.2.2.2.2.2.2
  refine vx_throwSW (cls := exN k) (names := exNames) (sa := ad.1 i) (text := stT i) (own := own) (A := A) X.1 X.2.1 hfl X.2.2.2.1 hw.2.2.2.2.2 (by decide) (X.2.2.2.2.1 _ hw.1) (X.2.2.2.2.1 _ hw.2.1) (ho ▸ hk ▸ hE.2.1 i hi)
    (vx_hat (fun w h => X.2.2.2.2.1 _ (hw.2.2.1 w h)) hw.2.2.2.1 (xB_ok X)) hw.2.2.2.2.1 hE.2.2.2.1 hE.2.2.2.2.1 hS (hl.1.trans X.2.2.1.symm) d0 d3 d4 d6 d9 (fun x h => (hne x h).elim) hR.1 hR.2.1 hR.2.2.1 hR.2.2.2 X.2.2.2.2.2.2.2.1 (fun t hW hz hk9 => ?_) hS.2.2 hm.1 hm.2
  exact ⟨k, gs, rfl, rfl, ⟨hP.kept (fun j q hj => hk9 _ (hP j q hj).lt), va_K.moved hW X.2.2.2.2.2.1, hD⟩, xF hS hz hk9⟩
theorem g_mono {Q' : State → Prop} (h : ∀ t, Q t → Q' t) (K : GW p l e R s m args below meth c A D nL cells slots Q pc lv st gs) : GW p l e R s m args below meth c A D nL cells slots Q' pc lv st gs := fun H locs ls hP hD hS hl T hT X => by
  obtain ⟨t, a, b⟩ := K H locs ls hP hD hS hl T hT X
  exact ⟨t, a, h t b⟩
theorem g_xret {mc ms : Nat} {rv : Option Value} {gs1 : List va_W} (h1 : cells ≤ mc) (h2 : slots ≤ ms) (K : GW p l e R s m args below meth c A D nL mc ms (MQ below (cmQ D cy A rv gs1.flatten) args s mc ms A) pc lv st gs) : GW p l e R s m args below meth c A D nL cells slots (vx_MQ below (xmQ D cy A (.inl (rv, gs1))) (xmX D cy A (.inl (rv, gs1))) args s mc ms A) pc lv st gs :=
  g_widen h1 h2 (g_mono (fun t ⟨o, b1, b2, b3, b4⟩ => ⟨o, b1, b2, Or.inl ⟨⟨rv, gs1, rfl, b3⟩, b4⟩⟩) K)
/-- an exception k stands over the frame -/
def GX (p : Program) (l : Launch) (e : Env) (R : Room) (s : State) (m : MethodId) (args : Array Value) (below : List Frame) (meth : Method) (c : Code) (A : Nat → Prop) (D : va_G) (nL cells slots : Nat) (Q : State → Prop) (pc : Nat) (lv : List (Nat × Value)) (st : List Value) (gs : List va_W) (k : Nat) : Prop :=
  ∀ (H : Heap) (locs : List Loc) (ls : Array Slot) (q : Addr) (ce : Cell), va_P D vwCl gs.flatten H → va_D A gs.flatten → va_S A s.heap H locs → lv_has ls nL lv → H[q]? = some ce → ce.vm = .none → s.vm.findClass (exN k) = some ce.cls → vx_W p l e R s m args below meth c H locs cells slots Q (F0 m pc ls st) q
theorem g_xout {mc ms k : Nat} (X : gK p s m args meth c A D cy ad cc nL own) (hne : ∀ x ∈ c.exceptionTable.toList, False) (h1 : cells ≤ mc) (h2 : slots ≤ ms) : GX p l e R s m args below meth c A D nL cells slots (vx_MQ below (xmQ D cy A (.inr (k, gs))) (xmX D cy A (.inr (k, gs))) args s mc ms A) pc lv st gs k :=
  fun H locs ls q ce hP hD hS hl h3 h4 h5 => vx_out (E := exN k) (fun x h => (hne x h).elim) X.2.2.2.2.2.2.2.1 h3 h4 h5 (fun t ht hW => ⟨k, gs, rfl, rfl, ⟨by rw [ht]; exact hP, va_K.moved hW X.2.2.2.2.2.1, hD⟩, hS.F ht⟩) hS.2.2 h1 h2
/-- what a call needs to go on, or to throw -/
theorem g_xback {y : MethodName} {mc ms : Nat} {av : List Value} {gc gr : List va_W} {res : xRes} {H : Heap} {locs : List Loc} {ls : Array Slot} {g : JFrame} {rest : List Value}
    (X : gK p s m args meth c A D cy ad cc nL own) (h1 : gs.Perm (gc ++ gr)) (hP : va_P D vwCl gs.flatten H) (hD : va_D A gs.flatten) (hS : va_S A s.heap H locs) (hl : lv_has ls nL lv)
    (hr : vx_Run p l e R s m args below meth c H locs cells slots mc ms (F0 m pc ls g.stack) rest (xmQ D cy (va_A gc.flatten H.size) res av.toArray) (xmX D cy (va_A gc.flatten H.size) res) (va_A gc.flatten H.size))
    (K1' : ∀ rv gc', res = .inl (rv, gc') → ∃ gs', (gc' ++ gr).Perm gs' ∧ GW p l e R s m args below meth c A D nL (cells + mc) (slots + ms) Q (pc + 3) lv (rv.toList ++ rest) gs')
    (K2 : ∀ k gc', res = .inr (k, gc') → ∃ gs', (gc' ++ gr).Perm gs' ∧ GX p l e R s m args below meth c A D nL (cells + mc) (slots + ms) Q pc lv rest gs' k) : W p l e R s m args below meth c H locs cells slots Q (F0 m pc ls g.stack) := by
  intro T hT XS
  have p1 := gp_fl h1
  rw [List.flatten_append] at p1
  have hP' := gp_P p1 hP
  have hD' := gp_D p1 hD
  have hF : ∀ q, va_A gc.flatten H.size q → A q := by
    intro q h
    rcases h with ⟨k, e9, h⟩ | h
    · have hk9 : k < gc.flatten.length := (List.getElem?_eq_some_iff.mp h).1
      exact hD'.2 k (q, e9) (by rw [List.getElem?_append_left hk9]; exact h)
    · exact X.2.2.2.2.2.2.1 q (Nat.le_trans hS.1 h)
  have go : ∀ (w1 : List va_W) (t : State) (L : List Loc), va_P D vwCl w1.flatten t.heap → va_D (va_A gc.flatten H.size) w1.flatten → (H.size ≤ t.heap.size ∧ ∀ q : Nat, q < H.size → ¬ va_A gc.flatten H.size q → t.heap[q]? = H[q]?) → (∀ q ∈ L, va_A gc.flatten H.size q.base) →
      ∀ gs', (w1 ++ gr).Perm gs' → va_P D vwCl gs'.flatten t.heap ∧ va_D A gs'.flatten ∧ va_S A s.heap t.heap (locs ++ L) := by
    intro w1 t L hP1 hD1 hz hL gs' h2
    obtain ⟨j1, j2⟩ := gp_join (w1 := w1.flatten) hP' hD' hz.2 hF hP1 hD1
    rw [← List.flatten_append] at j1 j2
    exact ⟨gp_P (gp_fl h2) j1, gp_D (gp_fl h2) j2, Nat.le_trans hS.1 hz.1, fun q a b => by rw [hz.2 q (Nat.lt_of_lt_of_le a hS.1) (fun z => b (hF q z))]; exact hS.2.1 q a b, fun q hq => by
      rcases List.mem_append.mp hq with h | h
      · exact hS.2.2 q h
      · exact hF _ (hL q h)⟩
  rcases hr T hT XS with ⟨v, st₀, t, T', L, h0, X', hL, e1, e2, ⟨rv, w1, hres, ⟨⟨hv, hP1, hK1, hD1⟩, hz, hk⟩⟩, st⟩ | ⟨q, st₀, t, T', L, E, ce, h0, X', hL, e1, e2, ⟨k, w1, hres, rfl, ⟨hP1, hK1, hD1⟩, hz, hk⟩, hce, hcv, hcl, st⟩
  · cases hv
    rw [h0] at hz hk
    obtain ⟨gs', hp', K⟩ := K1' _ _ hres
    obtain ⟨j1, j2, j3⟩ := go w1 t L hP1 hD1 ⟨hz, hk⟩ hL gs' hp'
    obtain ⟨t2, a1, b1⟩ := K t.heap (locs ++ L) ls j1 j2 j3 hl T' e1 X'
    exact ⟨t2, st t2 a1, b1⟩
  · rw [h0] at hz hk
    obtain ⟨gs', hp', K⟩ := K2 _ _ hres
    obtain ⟨j1, j2, j3⟩ := go w1 t L hP1 hD1 ⟨hz, hk⟩ hL gs' hp'
    obtain ⟨t2, a1, b1⟩ := K t.heap (locs ++ L) ls q ce j1 j2 j3 hl hce hcv hcl T' e1 X'
    exact ⟨t2, st.trans a1, b1⟩
theorem g_xcallR (X : gK p s m args meth c A D cy ad cc nL own) {index : Nat} {y : MethodName} {bytes : ByteArray} {maxL : Nat} {ret : Option FieldType} {rm : Room} {As : List Value} {gc gs' : List va_W} {rv : Option Value} {gc' : List va_W} {b : Nat} {C : String} {T : u_T} {N ci : Nat} {gl : va_W} {fs : List Value} (d : decode cc pc = .ok (.invokevirtual index, 3)) (hM : XM l y bytes maxL ret rm D cy ad (.ref b :: As) gc (.inl (rv, gc'))) (hm : mF y bytes maxL ret As.length) (hv : mFV y) (hlink : Cond.methodLink own index y ∈ wG) (hR : rm.frames + 1 ≤ R.frames ∧ 8 + (maxL + 11) + rm.locals ≤ R.locals ∧ cells + rm.cells ≤ R.cells ∧ slots + rm.slots ≤ R.slots) (g9 q9 : Nat) (r1 : gs[g9]? = some gl) (r2 : gl[q9]? = some (b, .inr (ci, fs))) (r3 : vwCl[ci]? = some (C, T, N)) (r4 : C = y.cls)
    (is : List Nat) (gr : List va_W) (hp : is.Perm (List.range gs.length)) (h1 : is.filterMap (fun i => gs[i]?) = gc ++ gr) (hp' : is.Perm (List.range gs'.length)) (h2 : is.filterMap (fun i => gs'[i]?) = gc' ++ gr) (hW : (rest.map fun v => v.category).sum ≤ 8) (hst : st = As.reverse ++ .ref b :: rest) (K : GW p l e R s m args below meth c A D nL (cells + rm.cells) (slots + rm.slots) Q (pc + 3) lv (rv.toList ++ rest) gs') : GW p l e R s m args below meth c A D nL cells slots Q pc lv st gs := by
  intro H locs ls hP hD hS hl
  subst hst
  subst r4
  have q1 := gp_pick hp h1
  have q2 := gp_pick hp' h2
  obtain ⟨i, hi, -⟩ := fl_get gs g9 q9 r1 r2
  have hr := vx_runV (g := F0 m pc ls (As.reverse ++ .ref b :: rest)) (rest := rest) (R := R) (cells := cells) (slots := slots) (below := below) (meth := meth) (e := e) (locs := locs) (n := As.length) (C := y.cls) (index := index) (bytes := bytes) (maxL := maxL) (ret := ret) ⟨X.1, X.2.1, X.2.2.1, X.2.2.2.1, X.2.2.2.2.1⟩ (hM H.size)
    ⟨callB_of As.length X.2.2.2.2.1 (gW_good hm.1) rfl rfl rfl (X.2.2.2.2.1 _ hm.2.1) (X.2.2.2.2.1 _ hlink) hm.2.2 ⟨hR.1, hR.2.1⟩, X.2.2.2.2.1 _ hv.1, X.2.2.2.2.1 _ hv.2⟩
    ⟨cmP_blind, va_recv X.2.2.2.2.2.1 hP r3 hi, g_pre X q1 hP hD hS _⟩ rfl rfl hl.1 rfl (lv_room hW) d ⟨hR.2.2.1, hR.2.2.2⟩
  exact g_xback (y := y) (av := .ref b :: As) (g := F0 m pc ls (As.reverse ++ .ref b :: rest)) X q1 hP hD hS hl hr (fun rv9 gc9 h9 => by cases h9; exact ⟨gs', q2.symm, K⟩) (fun k gc' h9 => nomatch h9)
theorem g_xcallT (X : gK p s m args meth c A D cy ad cc nL own) {index : Nat} {y : MethodName} {bytes : ByteArray} {maxL : Nat} {ret : Option FieldType} {rm : Room} {As : List Value} {gc gs' : List va_W} {k : Nat} {gc' : List va_W} {b : Nat} {C : String} {T : u_T} {N ci : Nat} {gl : va_W} {fs : List Value} (d : decode cc pc = .ok (.invokevirtual index, 3)) (hM : XM l y bytes maxL ret rm D cy ad (.ref b :: As) gc (.inr (k, gc'))) (hm : mF y bytes maxL ret As.length) (hv : mFV y) (hlink : Cond.methodLink own index y ∈ wG) (hR : rm.frames + 1 ≤ R.frames ∧ 8 + (maxL + 11) + rm.locals ≤ R.locals ∧ cells + rm.cells ≤ R.cells ∧ slots + rm.slots ≤ R.slots) (g9 q9 : Nat) (r1 : gs[g9]? = some gl) (r2 : gl[q9]? = some (b, .inr (ci, fs))) (r3 : vwCl[ci]? = some (C, T, N)) (r4 : C = y.cls)
    (is : List Nat) (gr : List va_W) (hp : is.Perm (List.range gs.length)) (h1 : is.filterMap (fun i => gs[i]?) = gc ++ gr) (hp' : is.Perm (List.range gs'.length)) (h2 : is.filterMap (fun i => gs'[i]?) = gc' ++ gr) (hW : (rest.map fun v => v.category).sum ≤ 8) (hst : st = As.reverse ++ .ref b :: rest) (K : GX p l e R s m args below meth c A D nL (cells + rm.cells) (slots + rm.slots) Q pc lv rest gs' k) : GW p l e R s m args below meth c A D nL cells slots Q pc lv st gs := by
  intro H locs ls hP hD hS hl
  subst hst
  subst r4
  have q1 := gp_pick hp h1
  have q2 := gp_pick hp' h2
  obtain ⟨i, hi, -⟩ := fl_get gs g9 q9 r1 r2
  have hr := vx_runV (g := F0 m pc ls (As.reverse ++ .ref b :: rest)) (rest := rest) (R := R) (cells := cells) (slots := slots) (below := below) (meth := meth) (e := e) (locs := locs) (n := As.length) (C := y.cls) (index := index) (bytes := bytes) (maxL := maxL) (ret := ret) ⟨X.1, X.2.1, X.2.2.1, X.2.2.2.1, X.2.2.2.2.1⟩ (hM H.size)
    ⟨callB_of As.length X.2.2.2.2.1 (gW_good hm.1) rfl rfl rfl (X.2.2.2.2.1 _ hm.2.1) (X.2.2.2.2.1 _ hlink) hm.2.2 ⟨hR.1, hR.2.1⟩, X.2.2.2.2.1 _ hv.1, X.2.2.2.2.1 _ hv.2⟩
    ⟨cmP_blind, va_recv X.2.2.2.2.2.1 hP r3 hi, g_pre X q1 hP hD hS _⟩ rfl rfl hl.1 rfl (lv_room hW) d ⟨hR.2.2.1, hR.2.2.2⟩
  exact g_xback (y := y) (av := .ref b :: As) (g := F0 m pc ls (As.reverse ++ .ref b :: rest)) X q1 hP hD hS hl hr (fun rv gc' h9 => nomatch h9) (fun k9 gc9 h9 => by cases h9; exact ⟨gs', q2.symm, K⟩)
/-! methods with handlers -/
def gWW (y : MethodName) (cc : ByteArray) (maxL : Nat) (ret : Option FieldType) (hh : List (Nat × Nat × Nat × Nat)) : List Cond := .codeWith y cc maxL ret hh :: wG
def CMW (l : Launch) (y : MethodName) (cc : ByteArray) (maxL : Nat) (ret : Option FieldType) (hh : List (Nat × Nat × Nat × Nat)) (rm : Room) (D : va_G) (cy : Nat → ClassId) (ad : (Nat → Nat) × (Nat → Nat)) (av : List Value) (g0 : List va_W) (rv : Option Value) (g1 : List va_W) : Prop :=
  ∀ sz, Met l y (gWW y cc maxL ret hh) rm (cmP D cy ad sz av g0.flatten) (cmQ D cy (va_A g0.flatten sz) rv g1.flatten) rm.cells rm.slots (va_A g0.flatten sz)
theorem cmw_of {y : MethodName} {cc : ByteArray} {maxL : Nat} {ret : Option FieldType} {hh : List (Nat × Nat × Nat × Nat)} {rm : Room} {av : List Value} {g0 : List va_W} {rv : Option Value} {g1 : List va_W} {lv0 : List (Nat × Value)}
    (hy : plainName y.cls = true) (hlen : (lg_sl av).length ≤ maxL) (hlv : lv_args 0 av = lv0)
    (body : ∀ {p : Program} {e : Env} {s : State} {m : MethodId} {args : Array Value} {below : List Frame} {meth : Method} {c : Code} {A : Nat → Prop}, gK p s m args meth c A D cy ad cc maxL y.cls → meth.sig.returnType = ret → c.exceptionTable.toList = tableOf hh →
      GW p l e rm s m args below meth c A D maxL 0 0 (MQ below (cmQ D cy A rv g1.flatten) args s rm.cells rm.slots A) 0 lv0 [] g0) : CMW l y cc maxL ret hh rm D cy ad av g0 rv g1 := by
  intro sz
  refine va_MetW (cc := cc) (maxL := maxL) (ret := ret) (hh := hh) hy rfl ?_
  intro p e s m args below meth c s₁ B hml hv
  obtain ⟨rfl, hsz, hP, hK, hD0, hE⟩ := hv
  subst hsz
  have hD := hD0.self (sz := s.heap.size)
  have hpre := atoms_spec (ws := gWW y cc maxL ret hh) B.pre
  have X : gK p s m av.toArray meth c (va_A g0.flatten s.heap.size) D cy ad cc maxL y.cls :=
    ⟨B.exec, B.bytes, hml, findClass_of_methodNamed B.named, fun w h => hpre w (List.mem_cons_of_mem _ h), hK, fun q h => Or.inr h, B.notSynchronized, hE⟩
  have hl := lv_entry av (n := maxL) hlen
  rw [hlv] at hl
  rw [lg_entry_eq]
  exact body X B.returns (vx_table (x := y) B (hpre _ List.mem_cons_self)) _ _ _ hP hD va_S.rf hl
def mFW (y : MethodName) (cc : ByteArray) (maxL : Nat) (ret : Option FieldType) (hh : List (Nat × Nat × Nat × Nat)) (n : Nat) : Prop :=
  Cond.codeWith y cc maxL ret hh ∈ wG ∧ Cond.initialized y.cls ∈ wG ∧ (y.cls ≠ "java/lang/invoke/MethodHandle" ∧ y.cls ≠ "java/lang/invoke/VarHandle" ∧ (parseMethodDescriptor y.desc).map (fun d => d.parameters.length) = some n)
theorem gWW_good {y : MethodName} {cc : ByteArray} {maxL : Nat} {ret : Option FieldType} {hh : List (Nat × Nat × Nat × Nat)} (h : Cond.codeWith y cc maxL ret hh ∈ wG) : GoodIn wG (gWW y cc maxL ret hh) := by
  intro w hw
  rcases List.mem_cons.mp hw with rfl | hw
  · exact ⟨h, wG_good _ h⟩
  · exact ⟨hw, wG_good _ hw⟩
theorem g_callSW (X : gK p s m args meth c A D cy ad cc nL own) {index : Nat} {y : MethodName} {bytes : ByteArray} {maxL : Nat} {ret : Option FieldType} {rm : Room} {As : List Value} {gc gc' gs' : List va_W} {rv : Option Value} {hh : List (Nat × Nat × Nat × Nat)} (d : decode cc pc = .ok (.invokestatic index, 3)) (hM : CMW l y bytes maxL ret hh rm D cy ad As gc rv gc') (hm : mFW y bytes maxL ret hh As.length) (hv : Cond.static y ∈ wG) (hlink : Cond.methodLink own index y ∈ wG) (hR : rm.frames + 1 ≤ R.frames ∧ 8 + (maxL + 11) + rm.locals ≤ R.locals ∧ cells + rm.cells ≤ R.cells ∧ slots + rm.slots ≤ R.slots)
    (is : List Nat) (gr : List va_W) (hp : is.Perm (List.range gs.length)) (h1 : is.filterMap (fun i => gs[i]?) = gc ++ gr) (hp' : is.Perm (List.range gs'.length)) (h2 : is.filterMap (fun i => gs'[i]?) = gc' ++ gr) (hW : (rest.map fun v => v.category).sum ≤ 8) (hst : st = As.reverse ++ rest) (K : GW p l e R s m args below meth c A D nL (cells + rm.cells) (slots + rm.slots) Q (pc + 3) lv (rv.toList ++ rest) gs') : GW p l e R s m args below meth c A D nL cells slots Q pc lv st gs := by
  intro H locs ls hP hD hS hl
  subst hst
  have q1 := gp_pick hp h1
  have q2 := gp_pick hp' h2
  have hr := vx_runSW (g := F0 m pc ls (As.reverse ++ rest)) (rest := rest) (R := R) (cells := cells) (slots := slots) (below := below) (meth := meth) (e := e) (locs := locs) (n := As.length) (index := index) (bytes := bytes) (maxL := maxL) (ret := ret) (hh := hh) ⟨X.1, X.2.1, X.2.2.1, X.2.2.2.1, X.2.2.2.2.1⟩ (hM H.size)
    ⟨⟨rfl, rfl, hR.1, hR.2.1, pay_in X.2.2.2.2.1 (gWW_good hm.1), List.mem_cons_self⟩, X.2.2.2.2.1 _ hm.1, X.2.2.2.2.1 _ hm.2.1, ⟨hm.2.2.1, hm.2.2.2.1⟩, fun sig h => by have h2 := hm.2.2.2.2; rw [h] at h2; exact (Option.some.inj h2).symm, X.2.2.2.2.1 _ hlink, X.2.2.2.2.1 _ hv⟩
    ⟨cmP_blind, g_pre X q1 hP hD hS _⟩ rfl rfl hl.1 rfl (lv_room hW) d ⟨hR.2.2.1, hR.2.2.2⟩
  exact g_back (y := y) (av := As) (g := F0 m pc ls (As.reverse ++ rest)) X q1 q2.symm hP hD hS hl hr K
/-- a handler: the rows ahead of it don't take the exception -/
theorem g_catch {k : Nat} {hh : List (Nat × Nat × Nat × Nat)} (X : gK p s m args meth c A D cy ad cc nL own) (ht : c.exceptionTable.toList = tableOf hh) (pre : List ExceptionTableEntry) (x : ExceptionTableEntry) (suf : List ExceptionTableEntry) (hsplit : tableOf hh = pre ++ x :: suf)
    (hpass : ∀ z ∈ pre, z.catchType ≠ 0 ∧ ∃ nm : String, Cond.classLink own z.catchType nm ∈ wG ∧ (exN k, nm) ∈ ncTab) (hx : covers x pc = true) (h0 : x.catchType ≠ 0) (hlink : Cond.classLink own x.catchType (exN k) ∈ wG) (hc : exN k ∈ caTab)
    (K : ∀ q : Nat, GW p l e R s m args below meth c A D nL cells slots Q x.handlerPc lv [.ref q] gs) : GX p l e R s m args below meth c A D nL cells slots Q pc lv st gs k :=
  fun H locs ls q ce hP hD hS hl h3 h4 h5 => vx_catch (own := own) (name := exN k) (E := exN k) X.2.2.2.1 pre x suf (ht.trans hsplit) (fun z hz => by
      obtain ⟨a, nm, b1, b2⟩ := hpass z hz
      exact Or.inr ⟨a, nm, X.2.2.2.2.1 _ b1, X.2.2.2.2.2.2.2.2.2.2.2.2.2.2.2.1 _ b2⟩) hx h0 (X.2.2.2.2.1 _ hlink) (va_Nw.use rfl (X.2.2.2.2.2.2.2.2.2.2.2.2.2.2.1 _ hc)) h3 h4 h5 (K q H locs ls hP hD hS hl)
end GWT
theorem exw_names : ∀ n ∈ exNames, Bundle.fit n = true := by decide
theorem xw_1 : xW RX7 67 71 1 := ⟨by decide +kernel, by decide +kernel, fun w h => List.mem_filter.mpr ⟨(by decide +kernel : ∀ w ∈ (vx_atS RX7 71 (exN 1) exNames).filter goodWord, w ∈ lw_tbl) w h, (List.mem_filter.mp h).2⟩, by decide +kernel, by decide +kernel, by decide +kernel⟩
theorem xw_2 : xW RX7 78 82 2 := ⟨by decide +kernel, by decide +kernel, fun w h => List.mem_filter.mpr ⟨(by decide +kernel : ∀ w ∈ (vx_atS RX7 82 (exN 2) exNames).filter goodWord, w ∈ lw_tbl) w h, (List.mem_filter.mp h).2⟩, by decide +kernel, by decide +kernel, by decide +kernel⟩
theorem xw_3 : xW RX7 182 186 3 := ⟨by decide +kernel, by decide +kernel, fun w h => List.mem_filter.mpr ⟨(by decide +kernel : ∀ w ∈ (vx_atS RX7 186 (exN 3) exNames).filter goodWord, w ∈ lw_tbl) w h, (List.mem_filter.mp h).2⟩, by decide +kernel, by decide +kernel, by decide +kernel⟩
end
