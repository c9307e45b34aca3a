/-! ===== contracts: av the arguments, g0 the cells that the method may touch, rv its answer, g1 what the cells are behind it ===== -/
def cmP (D : va_G) (cy : Nat → ClassId) (ad : (Nat → Nat) × (Nat → Nat)) (sz : Nat) (av : List Value) (w0 : va_W) : Array Value → State → Prop :=
  va_Pc av (fun U => U.heap.size = sz ∧ va_P D vwCl w0 U.heap ∧ va_K D vwCl (tyG cy) U ∧ va_D (fun _ => True) w0 ∧ gE ad (va_A w0 sz) U)
def cmQ (D : va_G) (cy : Nat → ClassId) (A : Nat → Prop) (rv : Option Value) (w1 : va_W) : Array Value → State → Outcome → State → Prop := fun _ st oc t =>
  (oc = .returned rv ∧ va_P D vwCl w1 t.heap ∧ va_K D vwCl (tyG cy) t ∧ va_D A w1) ∧ va_F A st t
def CM (l : Launch) (y : MethodName) (cc : ByteArray) (maxL : Nat) (ret : Option FieldType) (rm : Room) (D : va_G) (cy : Nat → ClassId) (ad : (Nat → Nat) × (Nat → Nat)) (av : List Value) (g0 : List va_W) (rv : Option Value) (g1 : List va_W) : Prop :=
  ∀ sz, Met l y (gW y cc maxL ret) rm (cmP D cy ad sz av g0.flatten) (cmQ D cy (va_A g0.flatten sz) rv g1.flatten) rm.cells rm.slots (va_A g0.flatten sz)
theorem cmP_blind {D : va_G} {cy : Nat → ClassId} {ad : (Nat → Nat) × (Nat → Nat)} {sz : Nat} {av : List Value} {w0 : va_W} : FrameBlind (cmP D cy ad sz av w0) := by
  intro a U g mk h
  obtain ⟨h1, h2, h3, h4, h5, h6⟩ := h
  exact ⟨h1, h2, h3, va_K.moved (u := U) (U := U.calling g mk a) (Vm.Alike.refl U.vm) h4, h5, gE_calling h6⟩
/-- a method by its body -/
theorem cm_of {l : Launch} {y : MethodName} {cc : ByteArray} {maxL : Nat} {ret : Option FieldType} {rm : Room} {D : va_G} {cy : Nat → ClassId} {ad : (Nat → Nat) × (Nat → Nat)} {av : List Value} {g0 : List va_W} {rv : Option Value} {g1 : List va_W} {lv0 : List (Nat × Value)}
    (hy : plainName y.cls = true) (hlen : (lg_sl av).length ≤ maxL) (hlv : lv_args 0 av = lv0)
    (body : ∀ {p : Program} {e : Env} {s : State} {m : MethodId} {args : Array Value} {below : List Frame} {meth : Method} {c : Code} {A : Nat → Prop}, gK p s m args meth c A D cy ad cc maxL y.cls → meth.sig.returnType = ret → meth.name = y.name →
      GW p l e rm s m args below meth c A D maxL 0 0 (MQ below (cmQ D cy A rv g1.flatten) args s rm.cells rm.slots A) 0 lv0 [] g0) : CM l y cc maxL ret rm D cy ad av g0 rv g1 := by
  intro sz
  refine Met.ofW (cc := cc) (maxL := maxL) (ret := ret) hy rfl ?_
  intro p e s m args below meth c s₁ B hml hv
  obtain ⟨rfl, hsz, hP, hK, hD0, hE⟩ := hv
  subst hsz
  have hD := hD0.self (sz := s.heap.size)
  have X : gK p s m av.toArray meth c (va_A g0.flatten s.heap.size) D cy ad cc maxL y.cls :=
    ⟨B.exec, B.bytes, hml, findClass_of_methodNamed B.named, fun w h => atoms_spec (ws := gW y cc maxL ret) B.pre w (List.mem_cons_of_mem _ h), hK, fun q h => Or.inr h, B.notSynchronized, hE⟩
  have hl := lv_entry av (n := maxL) hlen
  rw [hlv] at hl
  rw [lg_entry_eq]
  exact body X B.returns (name_of_methodNamed B.named B.method).1 _ _ _ hP hD va_S.rf hl
/-- what a call needs of the callee's words -/
def mF (y : MethodName) (cc : ByteArray) (maxL : Nat) (ret : Option FieldType) (n : Nat) : Prop :=
  Cond.code y cc maxL ret ∈ wG ∧ Cond.initialized y.cls ∈ wG ∧ (y.cls ≠ "java/lang/invoke/MethodHandle" ∧ y.cls ≠ "java/lang/invoke/VarHandle" ∧ (parseMethodDescriptor y.desc).map (fun d => d.parameters.length) = some n)
def mFV (y : MethodName) : Prop := Cond.instanceMethod y ∈ wG ∧ Cond.selects y.cls y y ∈ wG
section GWC
variable {p : Program} {l : Launch} {e : Env} {R : Room} {s : State} {m : MethodId} {args : Array Value} {below : List Frame} {meth : Method} {c : Code} {cells slots : Nat} {Q : State → Prop} {A : Nat → Prop} {D : va_G} {cy : Nat → ClassId} {ad : (Nat → Nat) × (Nat → Nat)} {cc : ByteArray} {nL : Nat} {own : String} {pc : Nat} {lv : List (Nat × Value)} {st rest : List Value} {gs : List va_W}
theorem g_iret (X : gK p s m args meth c A D cy ad cc nL own) {v : Int32} (hr : meth.sig.returnType = some .int) (d : decode cc pc = .ok (.ireturn, 1)) : GW p l e R s m args below meth c A D nL cells slots (MQ below (cmQ D cy A (some (.int v)) gs.flatten) args s cells slots A) pc lv [.int v] gs := fun H locs ls hP hD hS hl => W.iret X.1 X.2.1 hr (fun t ht hW => ⟨⟨rfl, by rw [ht]; exact hP, va_K.moved hW.alike X.2.2.2.2.2.1, hD⟩, hS.F ht⟩) hS.2.2 d (hlocks := X.2.2.2.2.2.2.2.1)
theorem g_zret (X : gK p s m args meth c A D cy ad cc nL own) {b : Bool} (hr : meth.sig.returnType = some .boolean) (d : decode cc pc = .ok (.ireturn, 1)) : GW p l e R s m args below meth c A D nL cells slots (MQ below (cmQ D cy A (some (.int (b2i b))) gs.flatten) args s cells slots A) pc lv [.int (b2i b)] gs := fun H locs ls hP hD hS hl => W.zret X.1 X.2.1 hr (b2i_nar b) (fun t ht hW => ⟨⟨rfl, by rw [ht]; exact hP, va_K.moved hW.alike X.2.2.2.2.2.1, hD⟩, hS.F ht⟩) hS.2.2 d (hlocks := X.2.2.2.2.2.2.2.1)
theorem g_tret (X : gK p s m args meth c A D cy ad cc nL own) {v : Int32} {ty : FieldType} (hr : meth.sig.returnType = some ty) (hn : narrow ty (.int v) = .int v) (d : decode cc pc = .ok (.ireturn, 1)) : GW p l e R s m args below meth c A D nL cells slots (MQ below (cmQ D cy A (some (.int v)) gs.flatten) args s cells slots A) pc lv [.int v] gs := fun H locs ls hP hD hS hl => W.zret X.1 X.2.1 hr hn (fun t ht hW => ⟨⟨rfl, by rw [ht]; exact hP, va_K.moved hW.alike X.2.2.2.2.2.1, hD⟩, hS.F ht⟩) hS.2.2 d (hlocks := X.2.2.2.2.2.2.2.1)
theorem g_lret (X : gK p s m args meth c A D cy ad cc nL own) {v : Int64} (hr : meth.sig.returnType = some .long) (d : decode cc pc = .ok (.lreturn, 1)) : GW p l e R s m args below meth c A D nL cells slots (MQ below (cmQ D cy A (some (.long v)) gs.flatten) args s cells slots A) pc lv [.long v] gs := fun H locs ls hP hD hS hl => W.lret X.1 X.2.1 hr (fun t ht hW => ⟨⟨rfl, by rw [ht]; exact hP, va_K.moved hW.alike X.2.2.2.2.2.1, hD⟩, hS.F ht⟩) hS.2.2 d (hlocks := X.2.2.2.2.2.2.2.1)
theorem g_vret (X : gK p s m args meth c A D cy ad cc nL own) (hr : meth.sig.returnType = none) (d : decode cc pc = .ok (.return_, 1)) : GW p l e R s m args below meth c A D nL cells slots (MQ below (cmQ D cy A none gs.flatten) args s cells slots A) pc lv [] gs := fun H locs ls hP hD hS hl => W.vret X.1 X.2.1 hr (fun t ht hW => ⟨⟨rfl, by rw [ht]; exact hP, va_K.moved hW.alike X.2.2.2.2.2.1, hD⟩, hS.F ht⟩) hS.2.2 d (hlocks := X.2.2.2.2.2.2.2.1)
theorem g_aret (X : gK p s m args meth c A D cy ad cc nL own) {v : Value} {rt : FieldType} (hr : meth.sig.returnType = some rt) (hrt : (∃ n, rt = .object n) ∨ ∃ t, rt = .array t) (hv : v = .null ∨ ∃ a, v = .ref a) (d : decode cc pc = .ok (.areturn, 1)) : GW p l e R s m args below meth c A D nL cells slots (MQ below (cmQ D cy A (some v) gs.flatten) args s cells slots A) pc lv [v] gs := fun H locs ls hP hD hS hl => W.aret X.1 X.2.1 hr hrt hv (fun t ht hW => ⟨⟨rfl, by rw [ht]; exact hP, va_K.moved hW.alike X.2.2.2.2.2.1, hD⟩, hS.F ht⟩) hS.2.2 d (hlocks := X.2.2.2.2.2.2.2.1)
theorem g_widen {k n : Nat} (h1 : cells ≤ k) (h2 : slots ≤ n) (K : GW p l e R s m args below meth c A D nL k n Q pc lv st gs) : GW p l e R s m args below meth c A D nL cells slots Q pc lv st gs := fun H locs ls hP hD hS hl => W.widen h1 h2 (K H locs ls hP hD hS hl)
/-- the frame rule of calls: what came back, beside the rest -/
theorem g_back {y : MethodName} {mc ms : Nat} {av : List Value} {gc gr gc' gs' : List va_W} {rv : Option Value} {H : Heap} {locs : List Loc} {ls : Array Slot} {g : JFrame} {rest : List Value}
    (X : gK p s m args meth c A D cy ad cc nL own) (h1 : gs.Perm (gc ++ gr)) (h2 : (gc' ++ gr).Perm gs') (hP : va_P D vwCl gs.flatten H) (hD : va_D A gs.flatten) (hS : va_S A s.heap H locs) (hl : lv_has ls nL lv)
    (hr : va_Run p l e R s m args below meth c H locs cells slots mc ms (F0 m pc ls g.stack) rest (cmQ D cy (va_A gc.flatten H.size) rv gc'.flatten av.toArray) (va_A gc.flatten H.size))
    (K : GW p l e R s m args below meth c A D nL (cells + mc) (slots + ms) Q (pc + 3) lv (rv.toList ++ rest) gs') : W p l e R s m args below meth c H locs cells slots Q (F0 m pc ls g.stack) := by
  intro T hT XS
  obtain ⟨v, st₀, t, T', L, h0, X', hL, e1, e2, ⟨⟨hv, hP1, hK1, hD1⟩, hz, hk⟩, st⟩ := hr T hT XS
  cases hv
  rw [h0] at hz hk
  have p1 := gp_fl h1
  rw [List.flatten_append] at p1
  have hP' := gp_P p1 hP
  have hD' := gp_D p1 hD
  have hF : ∀ q, va_A gc.flatten H.size q → A q := by
    intro q h
    rcases h with ⟨k, e9, h⟩ | h
    · have hk9 : k < gc.flatten.length := (List.getElem?_eq_some_iff.mp h).1
      exact hD'.2 k (q, e9) (by rw [List.getElem?_append_left hk9]; exact h)
    · exact X.2.2.2.2.2.2.1 q (Nat.le_trans hS.1 h)
  have hk' : ∀ q : Nat, q < H.size → ¬ va_A gc.flatten H.size q → t.heap[q]? = H[q]? := fun q a b => hk q a b
  obtain ⟨j1, j2⟩ := gp_join (w1 := gc'.flatten) hP' hD' hk' hF hP1 hD1
  rw [← List.flatten_append] at j1 j2
  have hS' : va_S A s.heap t.heap (locs ++ L) := ⟨Nat.le_trans hS.1 hz, fun q a b => by rw [hk q (Nat.lt_of_lt_of_le a hS.1) (fun z => b (hF q z))]; exact hS.2.1 q a b, fun q hq => by
    rcases List.mem_append.mp hq with h | h
    · exact hS.2.2 q h
    · exact hF _ (hL q h)⟩
  obtain ⟨t2, a1, b1⟩ := K t.heap (locs ++ L) ls (gp_P (gp_fl h2) j1) (gp_D (gp_fl h2) j2) hS' hl T' e1 X'
  exact ⟨t2, st t2 a1, b1⟩
/-- the callee's start, out of the caller's world -/
theorem g_pre {gc gr : List va_W} {H : Heap} {locs : List Loc} (X : gK p s m args meth c A D cy ad cc nL own) (h1 : gs.Perm (gc ++ gr)) (hP : va_P D vwCl gs.flatten H) (hD : va_D A gs.flatten) (hS : va_S A s.heap H locs) (av : List Value) :
    ∀ U : State, U.heap = H → s.WarmedH U.vm → cmP D cy ad H.size av gc.flatten av.toArray U := by
  intro U hU hW
  have p1 := gp_fl h1
  rw [List.flatten_append] at p1
  have hP' := gp_P p1 hP
  have hD' := gp_D p1 hD
  have hPc : va_P D vwCl gc.flatten H := by
    intro k q hk
    have hk9 : k < gc.flatten.length := (List.getElem?_eq_some_iff.mp hk).1
    exact hP' k q (by rw [List.getElem?_append_left hk9]; exact hk)
  have hDc : va_D A gc.flatten := by
    rw [gp_iff] at hD' ⊢
    rw [List.map_append, List.nodup_append] at hD'
    exact ⟨hD'.1.1, fun q hq => hD'.2 q (List.mem_append_left _ hq)⟩
  have hF : ∀ q, va_A gc.flatten H.size q → A q := by
    intro q h
    rcases h with ⟨k, e9, h⟩ | h
    · exact hDc.2 k (q, e9) h
    · exact X.2.2.2.2.2.2.1 q (Nat.le_trans hS.1 h)
  exact ⟨rfl, by rw [hU], by rw [hU]; exact hPc, va_K.moved hW.alike X.2.2.2.2.2.1, hDc.weaken (fun _ _ _ _ => trivial), gE_go X.2.2.2.2.2.2.2.2 hS hU hW hF⟩
theorem g_callV (X : gK p s m args meth c A D cy ad cc nL own) {index : Nat} {y : MethodName} {bytes : ByteArray} {maxL : Nat} {ret : Option FieldType} {rm : Room} {As : List Value} {gc gc' gs' : List va_W} {rv : Option Value} {b : Nat} {C : String} {T : u_T} {N ci : Nat} {gl : va_W} {fs : List Value} (d : decode cc pc = .ok (.invokevirtual index, 3)) (hM : CM l y bytes maxL ret rm D cy ad (.ref b :: As) gc rv gc') (hm : mF y bytes maxL ret As.length) (hv : mFV y) (hlink : Cond.methodLink own index y ∈ wG) (hR : rm.frames + 1 ≤ R.frames ∧ 8 + (maxL + 11) + rm.locals ≤ R.locals ∧ cells + rm.cells ≤ R.cells ∧ slots + rm.slots ≤ R.slots) (g9 q9 : Nat) (r1 : gs[g9]? = some gl) (r2 : gl[q9]? = some (b, .inr (ci, fs))) (r3 : vwCl[ci]? = some (C, T, N)) (r4 : C = y.cls)
    (is : List Nat) (gr : List va_W) (hp : is.Perm (List.range gs.length)) (h1 : is.filterMap (fun i => gs[i]?) = gc ++ gr) (hp' : is.Perm (List.range gs'.length)) (h2 : is.filterMap (fun i => gs'[i]?) = gc' ++ gr) (hW : (rest.map fun v => v.category).sum ≤ 8) (hst : st = As.reverse ++ .ref b :: rest) (K : GW p l e R s m args below meth c A D nL (cells + rm.cells) (slots + rm.slots) Q (pc + 3) lv (rv.toList ++ rest) gs') : GW p l e R s m args below meth c A D nL cells slots Q pc lv st gs := by
  intro H locs ls hP hD hS hl
  subst hst
  subst r4
  have q1 := gp_pick hp h1
  have q2 := gp_pick hp' h2
  obtain ⟨i, hi, -⟩ := fl_get gs g9 q9 r1 r2
  have hr := va_runV (g := F0 m pc ls (As.reverse ++ .ref b :: rest)) (rest := rest) (R := R) (cells := cells) (slots := slots) (below := below) (meth := meth) (e := e) (locs := locs) (n := As.length) (C := y.cls) (index := index) (bytes := bytes) (maxL := maxL) (ret := ret) ⟨X.1, X.2.1, X.2.2.1, X.2.2.2.1, X.2.2.2.2.1⟩ (hM H.size)
    ⟨callB_of As.length X.2.2.2.2.1 (gW_good hm.1) rfl rfl rfl (X.2.2.2.2.1 _ hm.2.1) (X.2.2.2.2.1 _ hlink) hm.2.2 ⟨hR.1, hR.2.1⟩, X.2.2.2.2.1 _ hv.1, X.2.2.2.2.1 _ hv.2⟩
    ⟨cmP_blind, va_recv X.2.2.2.2.2.1 hP r3 hi, g_pre X q1 hP hD hS _⟩ rfl rfl hl.1 rfl (lv_room hW) d ⟨hR.2.2.1, hR.2.2.2⟩
  exact g_back (y := y) (av := .ref b :: As) (g := F0 m pc ls (As.reverse ++ .ref b :: rest)) X q1 q2.symm hP hD hS hl hr K
theorem g_callS (X : gK p s m args meth c A D cy ad cc nL own) {index : Nat} {y : MethodName} {bytes : ByteArray} {maxL : Nat} {ret : Option FieldType} {rm : Room} {As : List Value} {gc gc' gs' : List va_W} {rv : Option Value} (d : decode cc pc = .ok (.invokestatic index, 3)) (hM : CM l y bytes maxL ret rm D cy ad As gc rv gc') (hm : mF y bytes maxL ret As.length) (hv : Cond.static y ∈ wG) (hlink : Cond.methodLink own index y ∈ wG) (hR : rm.frames + 1 ≤ R.frames ∧ 8 + (maxL + 11) + rm.locals ≤ R.locals ∧ cells + rm.cells ≤ R.cells ∧ slots + rm.slots ≤ R.slots)
    (is : List Nat) (gr : List va_W) (hp : is.Perm (List.range gs.length)) (h1 : is.filterMap (fun i => gs[i]?) = gc ++ gr) (hp' : is.Perm (List.range gs'.length)) (h2 : is.filterMap (fun i => gs'[i]?) = gc' ++ gr) (hW : (rest.map fun v => v.category).sum ≤ 8) (hst : st = As.reverse ++ rest) (K : GW p l e R s m args below meth c A D nL (cells + rm.cells) (slots + rm.slots) Q (pc + 3) lv (rv.toList ++ rest) gs') : GW p l e R s m args below meth c A D nL cells slots Q pc lv st gs := by
  intro H locs ls hP hD hS hl
  subst hst
  have q1 := gp_pick hp h1
  have q2 := gp_pick hp' h2
  have hr := va_runS (g := F0 m pc ls (As.reverse ++ rest)) (rest := rest) (R := R) (cells := cells) (slots := slots) (below := below) (meth := meth) (e := e) (locs := locs) (n := As.length) (index := index) (bytes := bytes) (maxL := maxL) (ret := ret) ⟨X.1, X.2.1, X.2.2.1, X.2.2.2.1, X.2.2.2.2.1⟩ (hM H.size)
    ⟨callB_of As.length X.2.2.2.2.1 (gW_good hm.1) rfl rfl rfl (X.2.2.2.2.1 _ hm.2.1) (X.2.2.2.2.1 _ hlink) hm.2.2 ⟨hR.1, hR.2.1⟩, X.2.2.2.2.1 _ hv⟩
    ⟨cmP_blind, g_pre X q1 hP hD hS _⟩ rfl rfl hl.1 rfl (lv_room hW) d ⟨hR.2.2.1, hR.2.2.2⟩
  exact g_back (y := y) (av := As) (g := F0 m pc ls (As.reverse ++ rest)) X q1 q2.symm hP hD hS hl hr K
theorem g_callI (X : gK p s m args meth c A D cy ad cc nL own) {index : Nat} {y : MethodName} {bytes : ByteArray} {maxL : Nat} {rm : Room} {As : List Value} {gc gc' gs' : List va_W} {rv : Option Value} {b : Nat} (d : decode cc pc = .ok (.invokespecial index, 3)) (hM : CM l y bytes maxL none rm D cy ad (.ref b :: As) gc rv gc') (hm : mF y bytes maxL none As.length) (hv : Cond.instanceMethod y ∈ wG) (hn : y.name = "<init>") (hlink : Cond.methodLink own index y ∈ wG) (hR : rm.frames + 1 ≤ R.frames ∧ 8 + (maxL + 11) + rm.locals ≤ R.locals ∧ cells + rm.cells ≤ R.cells ∧ slots + rm.slots ≤ R.slots)
    (is : List Nat) (gr : List va_W) (hp : is.Perm (List.range gs.length)) (h1 : is.filterMap (fun i => gs[i]?) = gc ++ gr) (hp' : is.Perm (List.range gs'.length)) (h2 : is.filterMap (fun i => gs'[i]?) = gc' ++ gr) (hW : (rest.map fun v => v.category).sum ≤ 8) (hst : st = As.reverse ++ .ref b :: rest) (K : GW p l e R s m args below meth c A D nL (cells + rm.cells) (slots + rm.slots) Q (pc + 3) lv (rv.toList ++ rest) gs') : GW p l e R s m args below meth c A D nL cells slots Q pc lv st gs := by
  intro H locs ls hP hD hS hl
  subst hst
  have q1 := gp_pick hp h1
  have q2 := gp_pick hp' h2
  have hr := va_runI (g := F0 m pc ls (As.reverse ++ .ref b :: rest)) (rest := rest) (R := R) (cells := cells) (slots := slots) (below := below) (meth := meth) (e := e) (locs := locs) (n := As.length) (index := index) (bytes := bytes) (maxL := maxL) ⟨X.1, X.2.1, X.2.2.1, X.2.2.2.1, X.2.2.2.2.1⟩ (hM H.size)
    ⟨callB_of As.length X.2.2.2.2.1 (gW_good hm.1) rfl rfl rfl (X.2.2.2.2.1 _ hm.2.1) (X.2.2.2.2.1 _ hlink) hm.2.2 ⟨hR.1, hR.2.1⟩, hn, X.2.2.2.2.1 _ hv⟩
    ⟨cmP_blind, g_pre X q1 hP hD hS _⟩ rfl rfl hl.1 rfl (lv_room hW) d ⟨hR.2.2.1, hR.2.2.2⟩
  exact g_back (y := y) (av := .ref b :: As) (g := F0 m pc ls (As.reverse ++ .ref b :: rest)) X q1 q2.symm hP hD hS hl hr K
theorem g_callSN (X : gK p s m args meth c A D cy ad cc nL own) {index : Nat} {y : MethodName} {bytes : ByteArray} {maxL : Nat} {ret : Option FieldType} {rm : Room} {As : List Value} {gc gc' gs' : List va_W} {rv : Option Value} {host : String} (d : decode cc pc = .ok (.invokestatic index, 3)) (hM : CM l y bytes maxL ret rm D cy ad As gc rv gc') (hm : mF y bytes maxL ret As.length) (hv : Cond.static y ∈ wG) (hlink : (own, index, y, host) ∈ neTab) (hR : rm.frames + 1 ≤ R.frames ∧ 8 + (maxL + 11) + rm.locals ≤ R.locals ∧ cells + rm.cells ≤ R.cells ∧ slots + rm.slots ≤ R.slots)
    (is : List Nat) (gr : List va_W) (hp : is.Perm (List.range gs.length)) (h1 : is.filterMap (fun i => gs[i]?) = gc ++ gr) (hp' : is.Perm (List.range gs'.length)) (h2 : is.filterMap (fun i => gs'[i]?) = gc' ++ gr) (hW : (rest.map fun v => v.category).sum ≤ 8) (hst : st = As.reverse ++ rest) (K : GW p l e R s m args below meth c A D nL (cells + rm.cells) (slots + rm.slots) Q (pc + 3) lv (rv.toList ++ rest) gs') : GW p l e R s m args below meth c A D nL cells slots Q pc lv st gs := by
  intro H locs ls hP hD hS hl
  subst hst
  have q1 := gp_pick hp h1
  have q2 := gp_pick hp' h2
  have hr := va_runSN (g := F0 m pc ls (As.reverse ++ rest)) (rest := rest) (R := R) (cells := cells) (slots := slots) (below := below) (meth := meth) (e := e) (locs := locs) (n := As.length) (index := index) (bytes := bytes) (maxL := maxL) (ret := ret) (host := host) ⟨X.1, X.2.1, X.2.2.1, X.2.2.2.1, X.2.2.2.2.1⟩ (hM H.size)
    ⟨va_cnB As.length X.2.2.2.2.1 (gW_good hm.1) rfl rfl rfl (X.2.2.2.2.2.2.2.2.2.2.2.2.2.1 _ hlink) (X.2.2.2.2.1 _ hm.2.1) hm.2.2 ⟨hR.1, hR.2.1⟩, X.2.2.2.2.1 _ hv, trivial⟩
    ⟨cmP_blind, g_pre X q1 hP hD hS _⟩ rfl rfl hl.1 rfl (lv_room hW) d ⟨hR.2.2.1, hR.2.2.2⟩
  exact g_back (y := y) (av := As) (g := F0 m pc ls (As.reverse ++ rest)) X q1 q2.symm hP hD hS hl hr K
theorem g_callIN (X : gK p s m args meth c A D cy ad cc nL own) {index : Nat} {y : MethodName} {bytes : ByteArray} {maxL : Nat} {rm : Room} {As : List Value} {gc gc' gs' : List va_W} {rv : Option Value} {host : String} {b : Nat} (d : decode cc pc = .ok (.invokespecial index, 3)) (hM : CM l y bytes maxL none rm D cy ad (.ref b :: As) gc rv gc') (hm : mF y bytes maxL none As.length) (hv : Cond.instanceMethod y ∈ wG) (hn : y.name = "<init>") (hlink : (own, index, y, host) ∈ neTab) (hR : rm.frames + 1 ≤ R.frames ∧ 8 + (maxL + 11) + rm.locals ≤ R.locals ∧ cells + rm.cells ≤ R.cells ∧ slots + rm.slots ≤ R.slots)
    (is : List Nat) (gr : List va_W) (hp : is.Perm (List.range gs.length)) (h1 : is.filterMap (fun i => gs[i]?) = gc ++ gr) (hp' : is.Perm (List.range gs'.length)) (h2 : is.filterMap (fun i => gs'[i]?) = gc' ++ gr) (hW : (rest.map fun v => v.category).sum ≤ 8) (hst : st = As.reverse ++ .ref b :: rest) (K : GW p l e R s m args below meth c A D nL (cells + rm.cells) (slots + rm.slots) Q (pc + 3) lv (rv.toList ++ rest) gs') : GW p l e R s m args below meth c A D nL cells slots Q pc lv st gs := by
  intro H locs ls hP hD hS hl
  subst hst
  have q1 := gp_pick hp h1
  have q2 := gp_pick hp' h2
  have hr := va_runIN (g := F0 m pc ls (As.reverse ++ .ref b :: rest)) (rest := rest) (R := R) (cells := cells) (slots := slots) (below := below) (meth := meth) (e := e) (locs := locs) (n := As.length) (index := index) (bytes := bytes) (maxL := maxL) (host := host) ⟨X.1, X.2.1, X.2.2.1, X.2.2.2.1, X.2.2.2.2.1⟩ (hM H.size)
    ⟨va_cnB As.length X.2.2.2.2.1 (gW_good hm.1) rfl rfl rfl (X.2.2.2.2.2.2.2.2.2.2.2.2.2.1 _ hlink) (X.2.2.2.2.1 _ hm.2.1) hm.2.2 ⟨hR.1, hR.2.1⟩, hn, X.2.2.2.2.1 _ hv⟩
    ⟨cmP_blind, g_pre X q1 hP hD hS _⟩ rfl rfl hl.1 rfl (lv_room hW) d ⟨hR.2.2.1, hR.2.2.2⟩
  exact g_back (y := y) (av := .ref b :: As) (g := F0 m pc ls (As.reverse ++ .ref b :: rest)) X q1 q2.symm hP hD hS hl hr K
end GWC
