/-! ===== methods that return or throw ===== -/
abbrev xRes : Type := (Option Value × List va_W) ⊕ (Nat × List va_W)
def xmQ (D : va_G) (cy : Nat → ClassId) (A : Nat → Prop) (res : xRes) : Array Value → State → Outcome → State → Prop := fun a st o t => ∃ rv w1, res = .inl (rv, w1) ∧ cmQ D cy A rv w1.flatten a st o t
def xmX (D : va_G) (cy : Nat → ClassId) (A : Nat → Prop) (res : xRes) : String → State → State → Prop := fun E st t => ∃ k w1, res = .inr (k, w1) ∧ E = exN k ∧ (va_P D vwCl w1.flatten t.heap ∧ va_K D vwCl (tyG cy) t ∧ va_D A w1.flatten) ∧ va_F A st t
def XM (l : Launch) (y : MethodName) (cc : ByteArray) (maxL : Nat) (ret : Option FieldType) (rm : Room) (D : va_G) (cy : Nat → ClassId) (ad : (Nat → Nat) × (Nat → Nat)) (av : List Value) (g0 : List va_W) (res : xRes) : Prop :=
  ∀ sz, vx_Met l y (gW y cc maxL ret) rm (cmP D cy ad sz av g0.flatten) (xmQ D cy (va_A g0.flatten sz) res) (xmX D cy (va_A g0.flatten sz) res) rm.cells rm.slots (va_A g0.flatten sz)
theorem xm_of {l : Launch} {y : MethodName} {cc : ByteArray} {maxL : Nat} {ret : Option FieldType} {rm : Room} {D : va_G} {cy : Nat → ClassId} {ad : (Nat → Nat) × (Nat → Nat)} {av : List Value} {g0 : List va_W} {res : xRes} {lv0 : List (Nat × Value)}
    (hy : plainName y.cls = true) (hlen : (lg_sl av).length ≤ maxL) (hlv : lv_args 0 av = lv0)
    (body : ∀ {p : Program} {e : Env} {s : State} {m : MethodId} {args : Array Value} {below : List Frame} {meth : Method} {c : Code} {A : Nat → Prop}, gK p s m args meth c A D cy ad cc maxL y.cls → meth.sig.returnType = ret → (∀ x ∈ c.exceptionTable.toList, False) →
      GW p l e rm s m args below meth c A D maxL 0 0 (vx_MQ below (xmQ D cy A res) (xmX D cy A res) args s rm.cells rm.slots A) 0 lv0 [] g0) : XM l y cc maxL ret rm D cy ad av g0 res := by
  intro sz
  refine vx_ofW (cc := cc) (maxL := maxL) (ret := ret) hy rfl ?_
  intro p e s m args below meth c s₁ B hml hne hv
  obtain ⟨rfl, hsz, hP, hK, hD0, hE⟩ := hv
  subst hsz
  have hD := hD0.self (sz := s.heap.size)
  have X : gK p s m av.toArray meth c (va_A g0.flatten s.heap.size) D cy ad cc maxL y.cls :=
    ⟨B.exec, B.bytes, hml, findClass_of_methodNamed B.named, fun w h => atoms_spec (ws := gW y cc maxL ret) B.pre w (List.mem_cons_of_mem _ h), hK, fun q h => Or.inr h, B.notSynchronized, hE⟩
  have hl := lv_entry av (n := maxL) hlen
  rw [hlv] at hl
  rw [lg_entry_eq]
  exact body X B.returns hne _ _ _ hP hD va_S.rf hl
def exNames : List String := ["java/lang/RuntimeException", "java/lang/Exception"]
def xB : List Cond := caTab.map (fun q => Cond.castable q q) ++ deTab.map (fun q => Cond.declares q)
/-- what a throw needs of the words -/
def xW (own : String) (ik ic k : Nat) : Prop :=
  Cond.classLink own ik (exN k) ∈ wG ∧ Cond.initialized (exN k) ∈ wG ∧ (∀ w ∈ (vx_atS own ic (exN k) exNames).filter goodWord, w ∈ wG) ∧ (∀ w ∈ (vx_atS own ic (exN k) exNames).filter (fun w => !goodWord w), w ∈ xB) ∧
  (∀ w ∈ Cond.classLink own ik (exN k) :: Cond.initialized (exN k) :: vx_atS own ic (exN k) exNames, vx_ot w = true) ∧ Bundle.fit (exN k) = true
section GWT
variable {p : Program} {l : Launch} {e : Env} {R : Room} {s : State} {m : MethodId} {args : Array Value} {below : List Frame} {meth : Method} {c : Code} {cells slots : Nat} {Q : State → Prop} {A : Nat → Prop} {D : va_G} {cy : Nat → ClassId} {ad : (Nat → Nat) × (Nat → Nat)} {cc : ByteArray} {nL : Nat} {own : String} {pc : Nat} {lv : List (Nat × Value)} {st rest : List Value} {gs : List va_W}
theorem xB_ok (X : gK p s m args meth c A D cy ad cc nL own) : ∀ w ∈ xB, w.before args s = true := by
  intro w hw
  rcases List.mem_append.mp hw with h | h
  · obtain ⟨q, hq, rfl⟩ := List.mem_map.mp h
    exact va_Nw.use rfl (X.2.2.2.2.2.2.2.2.2.2.2.2.2.2.1 q hq)
  · obtain ⟨q, hq, rfl⟩ := List.mem_map.mp h
    exact va_Nw.use rfl (X.2.2.2.2.2.2.2.2.2.2.2.2.2.2.2.2 q hq)
theorem xF {H : Heap} {locs : List Loc} {t : State} (hS : va_S A s.heap H locs) (hz : H.size ≤ t.heap.size) (hk : ∀ q : Nat, q < H.size → t.heap[q]? = H[q]?) : va_F A s t :=
  ⟨Nat.le_trans hS.1 hz, fun q h1 h2 => by rw [hk q (Nat.lt_of_lt_of_le h1 hS.1)]; exact hS.2.1 q h1 h2⟩
theorem g_throwS {mc ms : Nat} (X : gK p s m args meth c A D cy ad cc nL own) (hne : ∀ x ∈ c.exceptionTable.toList, False) (hfl : l.stackTraces = false) {ik is ic : Nat} (k i : Nat) (hi : i < 28) (ho : stO i = own) (hk : stK i = is)
    (d0 : decode cc pc = .ok (.new ik, 3)) (d3 : decode cc (pc + 3) = .ok (.dup, 1)) (d4 : decode cc (pc + 4) = .ok (.ldc is, 2)) (d6 : decode cc (pc + 6) = .ok (.invokespecial ic, 3)) (d9 : decode cc (pc + 9) = .ok (.athrow, 1)) (hw : xW own ik ic k)
    (hR : 5 < R.frames ∧ (st.map fun v => v.category).sum + 82 ≤ R.locals ∧ cells + 1 ≤ R.cells ∧ slots + 6 ≤ R.slots) (hm : cells + 1 ≤ mc ∧ slots + 6 ≤ ms) : GW p l e R s m args below meth c A D nL cells slots (vx_MQ below (xmQ D cy A (.inr (k, gs))) (xmX D cy A (.inr (k, gs))) args s mc ms A) pc lv st gs := by
  intro H locs ls hP hD hS hl
  have hE := X.2.2.2.2.2.2.2.2
  refine vx_throwS (cls := exN k) (names := exNames) (sa := ad.1 i) (text := stT i) (own := own) (A := A) X.1 X.2.1 hfl X.2.2.2.1 hw.2.2.2.2.2 (by decide) (X.2.2.2.2.1 _ hw.1) (X.2.2.2.2.1 _ hw.2.1) (ho ▸ hk ▸ hE.2.1 i hi)
    (vx_hat (fun w h => X.2.2.2.2.1 _ (hw.2.2.1 w h)) hw.2.2.2.1 (xB_ok X)) hw.2.2.2.2.1 hE.2.2.2.1 hE.2.2.2.2.1 hS (hl.1.trans X.2.2.1.symm) d0 d3 d4 d6 d9 (fun x h => (hne x h).elim) hR.1 hR.2.1 hR.2.2.1 hR.2.2.2 X.2.2.2.2.2.2.2.1 (fun t hW hz hk9 => ?_) hS.2.2 hm.1 hm.2
  exact ⟨k, gs, rfl, rfl, ⟨hP.kept (fun j q hj => hk9 _ (hP j q hj).lt), va_K.moved hW X.2.2.2.2.2.1, hD⟩, xF hS hz hk9⟩
theorem g_throwSW {mc ms : Nat} (X : gK p s m args meth c A D cy ad cc nL own) (hne : ∀ x ∈ c.exceptionTable.toList, False) (hfl : l.stackTraces = false) {ik is ic : Nat} (k i : Nat) (hi : i < 28) (ho : stO i = own) (hk : stK i = is)
    (d0 : decode cc pc = .ok (.new ik, 3)) (d3 : decode cc (pc + 3) = .ok (.dup, 1)) (d4 : decode cc (pc + 4) = .ok (.ldc_w is, 3)) (d6 : decode cc (pc + 7) = .ok (.invokespecial ic, 3)) (d9 : decode cc (pc + 10) = .ok (.athrow, 1)) (hw : xW own ik ic k)
    (hR : 5 < R.frames ∧ (st.map fun v => v.category).sum + 82 ≤ R.locals ∧ cells + 1 ≤ R.cells ∧ slots + 6 ≤ R.slots) (hm : cells + 1 ≤ mc ∧ slots + 6 ≤ ms) : GW p l e R s m args below meth c A D nL cells slots (vx_MQ below (xmQ D cy A (.inr (k, gs))) (xmX D cy A (.inr (k, gs))) args s mc ms A) pc lv st gs := by
  intro H locs ls hP hD hS hl
  have hE := X.2.2.2.2.2.2.2.2
  refine vx_throwSW (cls := exN k) (names := exNames) (sa := ad.1 i) (text := stT i) (own := own) (A := A) X.1 X.2.1 hfl X.2.2.2.1 hw.2.2.2.2.2 (by decide) (X.2.2.2.2.1 _ hw.1) (X.2.2.2.2.1 _ hw.2.1) (ho ▸ hk ▸ hE.2.1 i hi)
    (vx_hat (fun w h => X.2.2.2.2.1 _ (hw.2.2.1 w h)) hw.2.2.2.1 (xB_ok X)) hw.2.2.2.2.1 hE.2.2.2.1 hE.2.2.2.2.1 hS (hl.1.trans X.2.2.1.symm) d0 d3 d4 d6 d9 (fun x h => (hne x h).elim) hR.1 hR.2.1 hR.2.2.1 hR.2.2.2 X.2.2.2.2.2.2.2.1 (fun t hW hz hk9 => ?_) hS.2.2 hm.1 hm.2
  exact ⟨k, gs, rfl, rfl, ⟨hP.kept (fun j q hj => hk9 _ (hP j q hj).lt), va_K.moved hW X.2.2.2.2.2.1, hD⟩, xF hS hz hk9⟩
theorem g_mono {Q' : State → Prop} (h : ∀ t, Q t → Q' t) (K : GW p l e R s m args below meth c A D nL cells slots Q pc lv st gs) : GW p l e R s m args below meth c A D nL cells slots Q' pc lv st gs := fun H locs ls hP hD hS hl T hT X => by
  obtain ⟨t, a, b⟩ := K H locs ls hP hD hS hl T hT X
  exact ⟨t, a, h t b⟩
theorem g_xret {mc ms : Nat} {rv : Option Value} {gs1 : List va_W} (h1 : cells ≤ mc) (h2 : slots ≤ ms) (K : GW p l e R s m args below meth c A D nL mc ms (MQ below (cmQ D cy A rv gs1.flatten) args s mc ms A) pc lv st gs) : GW p l e R s m args below meth c A D nL cells slots (vx_MQ below (xmQ D cy A (.inl (rv, gs1))) (xmX D cy A (.inl (rv, gs1))) args s mc ms A) pc lv st gs :=
  g_widen h1 h2 (g_mono (fun t ⟨o, b1, b2, b3, b4⟩ => ⟨o, b1, b2, Or.inl ⟨⟨rv, gs1, rfl, b3⟩, b4⟩⟩) K)
/-- an exception k stands over the frame -/
def GX (p : Program) (l : Launch) (e : Env) (R : Room) (s : State) (m : MethodId) (args : Array Value) (below : List Frame) (meth : Method) (c : Code) (A : Nat → Prop) (D : va_G) (nL cells slots : Nat) (Q : State → Prop) (pc : Nat) (lv : List (Nat × Value)) (st : List Value) (gs : List va_W) (k : Nat) : Prop :=
  ∀ (H : Heap) (locs : List Loc) (ls : Array Slot) (q : Addr) (ce : Cell), va_P D vwCl gs.flatten H → va_D A gs.flatten → va_S A s.heap H locs → lv_has ls nL lv → H[q]? = some ce → ce.vm = .none → s.vm.findClass (exN k) = some ce.cls → vx_W p l e R s m args below meth c H locs cells slots Q (F0 m pc ls st) q
theorem g_xout {mc ms k : Nat} (X : gK p s m args meth c A D cy ad cc nL own) (hne : ∀ x ∈ c.exceptionTable.toList, False) (h1 : cells ≤ mc) (h2 : slots ≤ ms) : GX p l e R s m args below meth c A D nL cells slots (vx_MQ below (xmQ D cy A (.inr (k, gs))) (xmX D cy A (.inr (k, gs))) args s mc ms A) pc lv st gs k :=
  fun H locs ls q ce hP hD hS hl h3 h4 h5 => vx_out (E := exN k) (fun x h => (hne x h).elim) X.2.2.2.2.2.2.2.1 h3 h4 h5 (fun t ht hW => ⟨k, gs, rfl, rfl, ⟨by rw [ht]; exact hP, va_K.moved hW X.2.2.2.2.2.1, hD⟩, hS.F ht⟩) hS.2.2 h1 h2
/-- what a call needs to go on, or to throw -/
theorem g_xback {y : MethodName} {mc ms : Nat} {av : List Value} {gc gr : List va_W} {res : xRes} {H : Heap} {locs : List Loc} {ls : Array Slot} {g : JFrame} {rest : List Value}
    (X : gK p s m args meth c A D cy ad cc nL own) (h1 : gs.Perm (gc ++ gr)) (hP : va_P D vwCl gs.flatten H) (hD : va_D A gs.flatten) (hS : va_S A s.heap H locs) (hl : lv_has ls nL lv)
    (hr : vx_Run p l e R s m args below meth c H locs cells slots mc ms (F0 m pc ls g.stack) rest (xmQ D cy (va_A gc.flatten H.size) res av.toArray) (xmX D cy (va_A gc.flatten H.size) res) (va_A gc.flatten H.size))
    (K1' : ∀ rv gc', res = .inl (rv, gc') → ∃ gs', (gc' ++ gr).Perm gs' ∧ GW p l e R s m args below meth c A D nL (cells + mc) (slots + ms) Q (pc + 3) lv (rv.toList ++ rest) gs')
    (K2 : ∀ k gc', res = .inr (k, gc') → ∃ gs', (gc' ++ gr).Perm gs' ∧ GX p l e R s m args below meth c A D nL (cells + mc) (slots + ms) Q pc lv rest gs' k) : W p l e R s m args below meth c H locs cells slots Q (F0 m pc ls g.stack) := by
  intro T hT XS
  have p1 := gp_fl h1
  rw [List.flatten_append] at p1
  have hP' := gp_P p1 hP
  have hD' := gp_D p1 hD
  have hF : ∀ q, va_A gc.flatten H.size q → A q := by
    intro q h
    rcases h with ⟨k, e9, h⟩ | h
    · have hk9 : k < gc.flatten.length := (List.getElem?_eq_some_iff.mp h).1
      exact hD'.2 k (q, e9) (by rw [List.getElem?_append_left hk9]; exact h)
    · exact X.2.2.2.2.2.2.1 q (Nat.le_trans hS.1 h)
  have go : ∀ (w1 : List va_W) (t : State) (L : List Loc), va_P D vwCl w1.flatten t.heap → va_D (va_A gc.flatten H.size) w1.flatten → (H.size ≤ t.heap.size ∧ ∀ q : Nat, q < H.size → ¬ va_A gc.flatten H.size q → t.heap[q]? = H[q]?) → (∀ q ∈ L, va_A gc.flatten H.size q.base) →
      ∀ gs', (w1 ++ gr).Perm gs' → va_P D vwCl gs'.flatten t.heap ∧ va_D A gs'.flatten ∧ va_S A s.heap t.heap (locs ++ L) := by
    intro w1 t L hP1 hD1 hz hL gs' h2
    obtain ⟨j1, j2⟩ := gp_join (w1 := w1.flatten) hP' hD' hz.2 hF hP1 hD1
    rw [← List.flatten_append] at j1 j2
    exact ⟨gp_P (gp_fl h2) j1, gp_D (gp_fl h2) j2, Nat.le_trans hS.1 hz.1, fun q a b => by rw [hz.2 q (Nat.lt_of_lt_of_le a hS.1) (fun z => b (hF q z))]; exact hS.2.1 q a b, fun q hq => by
      rcases List.mem_append.mp hq with h | h
      · exact hS.2.2 q h
      · exact hF _ (hL q h)⟩
  rcases hr T hT XS with ⟨v, st₀, t, T', L, h0, X', hL, e1, e2, ⟨rv, w1, hres, ⟨⟨hv, hP1, hK1, hD1⟩, hz, hk⟩⟩, st⟩ | ⟨q, st₀, t, T', L, E, ce, h0, X', hL, e1, e2, ⟨k, w1, hres, rfl, ⟨hP1, hK1, hD1⟩, hz, hk⟩, hce, hcv, hcl, st⟩
  · cases hv
    rw [h0] at hz hk
    obtain ⟨gs', hp', K⟩ := K1' _ _ hres
    obtain ⟨j1, j2, j3⟩ := go w1 t L hP1 hD1 ⟨hz, hk⟩ hL gs' hp'
    obtain ⟨t2, a1, b1⟩ := K t.heap (locs ++ L) ls j1 j2 j3 hl T' e1 X'
    exact ⟨t2, st t2 a1, b1⟩
  · rw [h0] at hz hk
    obtain ⟨gs', hp', K⟩ := K2 _ _ hres
    obtain ⟨j1, j2, j3⟩ := go w1 t L hP1 hD1 ⟨hz, hk⟩ hL gs' hp'
    obtain ⟨t2, a1, b1⟩ := K t.heap (locs ++ L) ls q ce j1 j2 j3 hl hce hcv hcl T' e1 X'
    exact ⟨t2, st.trans a1, b1⟩
theorem g_xcallR (X : gK p s m args meth c A D cy ad cc nL own) {index : Nat} {y : MethodName} {bytes : ByteArray} {maxL : Nat} {ret : Option FieldType} {rm : Room} {As : List Value} {gc gs' : List va_W} {rv : Option Value} {gc' : List va_W} {b : Nat} {C : String} {T : u_T} {N ci : Nat} {gl : va_W} {fs : List Value} (d : decode cc pc = .ok (.invokevirtual index, 3)) (hM : XM l y bytes maxL ret rm D cy ad (.ref b :: As) gc (.inl (rv, gc'))) (hm : mF y bytes maxL ret As.length) (hv : mFV y) (hlink : Cond.methodLink own index y ∈ wG) (hR : rm.frames + 1 ≤ R.frames ∧ 8 + (maxL + 11) + rm.locals ≤ R.locals ∧ cells + rm.cells ≤ R.cells ∧ slots + rm.slots ≤ R.slots) (g9 q9 : Nat) (r1 : gs[g9]? = some gl) (r2 : gl[q9]? = some (b, .inr (ci, fs))) (r3 : vwCl[ci]? = some (C, T, N)) (r4 : C = y.cls)
    (is : List Nat) (gr : List va_W) (hp : is.Perm (List.range gs.length)) (h1 : is.filterMap (fun i => gs[i]?) = gc ++ gr) (hp' : is.Perm (List.range gs'.length)) (h2 : is.filterMap (fun i => gs'[i]?) = gc' ++ gr) (hW : (rest.map fun v => v.category).sum ≤ 8) (hst : st = As.reverse ++ .ref b :: rest) (K : GW p l e R s m args below meth c A D nL (cells + rm.cells) (slots + rm.slots) Q (pc + 3) lv (rv.toList ++ rest) gs') : GW p l e R s m args below meth c A D nL cells slots Q pc lv st gs := by
  intro H locs ls hP hD hS hl
  subst hst
  subst r4
  have q1 := gp_pick hp h1
  have q2 := gp_pick hp' h2
  obtain ⟨i, hi, -⟩ := fl_get gs g9 q9 r1 r2
  have hr := vx_runV (g := F0 m pc ls (As.reverse ++ .ref b :: rest)) (rest := rest) (R := R) (cells := cells) (slots := slots) (below := below) (meth := meth) (e := e) (locs := locs) (n := As.length) (C := y.cls) (index := index) (bytes := bytes) (maxL := maxL) (ret := ret) ⟨X.1, X.2.1, X.2.2.1, X.2.2.2.1, X.2.2.2.2.1⟩ (hM H.size)
    ⟨callB_of As.length X.2.2.2.2.1 (gW_good hm.1) rfl rfl rfl (X.2.2.2.2.1 _ hm.2.1) (X.2.2.2.2.1 _ hlink) hm.2.2 ⟨hR.1, hR.2.1⟩, X.2.2.2.2.1 _ hv.1, X.2.2.2.2.1 _ hv.2⟩
    ⟨cmP_blind, va_recv X.2.2.2.2.2.1 hP r3 hi, g_pre X q1 hP hD hS _⟩ rfl rfl hl.1 rfl (lv_room hW) d ⟨hR.2.2.1, hR.2.2.2⟩
  exact g_xback (y := y) (av := .ref b :: As) (g := F0 m pc ls (As.reverse ++ .ref b :: rest)) X q1 hP hD hS hl hr (fun rv9 gc9 h9 => by cases h9; exact ⟨gs', q2.symm, K⟩) (fun k gc' h9 => nomatch h9)
theorem g_xcallT (X : gK p s m args meth c A D cy ad cc nL own) {index : Nat} {y : MethodName} {bytes : ByteArray} {maxL : Nat} {ret : Option FieldType} {rm : Room} {As : List Value} {gc gs' : List va_W} {k : Nat} {gc' : List va_W} {b : Nat} {C : String} {T : u_T} {N ci : Nat} {gl : va_W} {fs : List Value} (d : decode cc pc = .ok (.invokevirtual index, 3)) (hM : XM l y bytes maxL ret rm D cy ad (.ref b :: As) gc (.inr (k, gc'))) (hm : mF y bytes maxL ret As.length) (hv : mFV y) (hlink : Cond.methodLink own index y ∈ wG) (hR : rm.frames + 1 ≤ R.frames ∧ 8 + (maxL + 11) + rm.locals ≤ R.locals ∧ cells + rm.cells ≤ R.cells ∧ slots + rm.slots ≤ R.slots) (g9 q9 : Nat) (r1 : gs[g9]? = some gl) (r2 : gl[q9]? = some (b, .inr (ci, fs))) (r3 : vwCl[ci]? = some (C, T, N)) (r4 : C = y.cls)
    (is : List Nat) (gr : List va_W) (hp : is.Perm (List.range gs.length)) (h1 : is.filterMap (fun i => gs[i]?) = gc ++ gr) (hp' : is.Perm (List.range gs'.length)) (h2 : is.filterMap (fun i => gs'[i]?) = gc' ++ gr) (hW : (rest.map fun v => v.category).sum ≤ 8) (hst : st = As.reverse ++ .ref b :: rest) (K : GX p l e R s m args below meth c A D nL (cells + rm.cells) (slots + rm.slots) Q pc lv rest gs' k) : GW p l e R s m args below meth c A D nL cells slots Q pc lv st gs := by
  intro H locs ls hP hD hS hl
  subst hst
  subst r4
  have q1 := gp_pick hp h1
  have q2 := gp_pick hp' h2
  obtain ⟨i, hi, -⟩ := fl_get gs g9 q9 r1 r2
  have hr := vx_runV (g := F0 m pc ls (As.reverse ++ .ref b :: rest)) (rest := rest) (R := R) (cells := cells) (slots := slots) (below := below) (meth := meth) (e := e) (locs := locs) (n := As.length) (C := y.cls) (index := index) (bytes := bytes) (maxL := maxL) (ret := ret) ⟨X.1, X.2.1, X.2.2.1, X.2.2.2.1, X.2.2.2.2.1⟩ (hM H.size)
    ⟨callB_of As.length X.2.2.2.2.1 (gW_good hm.1) rfl rfl rfl (X.2.2.2.2.1 _ hm.2.1) (X.2.2.2.2.1 _ hlink) hm.2.2 ⟨hR.1, hR.2.1⟩, X.2.2.2.2.1 _ hv.1, X.2.2.2.2.1 _ hv.2⟩
    ⟨cmP_blind, va_recv X.2.2.2.2.2.1 hP r3 hi, g_pre X q1 hP hD hS _⟩ rfl rfl hl.1 rfl (lv_room hW) d ⟨hR.2.2.1, hR.2.2.2⟩
  exact g_xback (y := y) (av := .ref b :: As) (g := F0 m pc ls (As.reverse ++ .ref b :: rest)) X q1 hP hD hS hl hr (fun rv gc' h9 => nomatch h9) (fun k9 gc9 h9 => by cases h9; exact ⟨gs', q2.symm, K⟩)
/-! methods with handlers -/
def gWW (y : MethodName) (cc : ByteArray) (maxL : Nat) (ret : Option FieldType) (hh : List (Nat × Nat × Nat × Nat)) : List Cond := .codeWith y cc maxL ret hh :: wG
def CMW (l : Launch) (y : MethodName) (cc : ByteArray) (maxL : Nat) (ret : Option FieldType) (hh : List (Nat × Nat × Nat × Nat)) (rm : Room) (D : va_G) (cy : Nat → ClassId) (ad : (Nat → Nat) × (Nat → Nat)) (av : List Value) (g0 : List va_W) (rv : Option Value) (g1 : List va_W) : Prop :=
  ∀ sz, Met l y (gWW y cc maxL ret hh) rm (cmP D cy ad sz av g0.flatten) (cmQ D cy (va_A g0.flatten sz) rv g1.flatten) rm.cells rm.slots (va_A g0.flatten sz)
theorem cmw_of {y : MethodName} {cc : ByteArray} {maxL : Nat} {ret : Option FieldType} {hh : List (Nat × Nat × Nat × Nat)} {rm : Room} {av : List Value} {g0 : List va_W} {rv : Option Value} {g1 : List va_W} {lv0 : List (Nat × Value)}
    (hy : plainName y.cls = true) (hlen : (lg_sl av).length ≤ maxL) (hlv : lv_args 0 av = lv0)
    (body : ∀ {p : Program} {e : Env} {s : State} {m : MethodId} {args : Array Value} {below : List Frame} {meth : Method} {c : Code} {A : Nat → Prop}, gK p s m args meth c A D cy ad cc maxL y.cls → meth.sig.returnType = ret → c.exceptionTable.toList = tableOf hh →
      GW p l e rm s m args below meth c A D maxL 0 0 (MQ below (cmQ D cy A rv g1.flatten) args s rm.cells rm.slots A) 0 lv0 [] g0) : CMW l y cc maxL ret hh rm D cy ad av g0 rv g1 := by
  intro sz
  refine va_MetW (cc := cc) (maxL := maxL) (ret := ret) (hh := hh) hy rfl ?_
  intro p e s m args below meth c s₁ B hml hv
  obtain ⟨rfl, hsz, hP, hK, hD0, hE⟩ := hv
  subst hsz
  have hD := hD0.self (sz := s.heap.size)
  have hpre := atoms_spec (ws := gWW y cc maxL ret hh) B.pre
  have X : gK p s m av.toArray meth c (va_A g0.flatten s.heap.size) D cy ad cc maxL y.cls :=
    ⟨B.exec, B.bytes, hml, findClass_of_methodNamed B.named, fun w h => hpre w (List.mem_cons_of_mem _ h), hK, fun q h => Or.inr h, B.notSynchronized, hE⟩
  have hl := lv_entry av (n := maxL) hlen
  rw [hlv] at hl
  rw [lg_entry_eq]
  exact body X B.returns (vx_table (x := y) B (hpre _ List.mem_cons_self)) _ _ _ hP hD va_S.rf hl
def mFW (y : MethodName) (cc : ByteArray) (maxL : Nat) (ret : Option FieldType) (hh : List (Nat × Nat × Nat × Nat)) (n : Nat) : Prop :=
  Cond.codeWith y cc maxL ret hh ∈ wG ∧ Cond.initialized y.cls ∈ wG ∧ (y.cls ≠ "java/lang/invoke/MethodHandle" ∧ y.cls ≠ "java/lang/invoke/VarHandle" ∧ (parseMethodDescriptor y.desc).map (fun d => d.parameters.length) = some n)
theorem gWW_good {y : MethodName} {cc : ByteArray} {maxL : Nat} {ret : Option FieldType} {hh : List (Nat × Nat × Nat × Nat)} (h : Cond.codeWith y cc maxL ret hh ∈ wG) : GoodIn wG (gWW y cc maxL ret hh) := by
  intro w hw
  rcases List.mem_cons.mp hw with rfl | hw
  · exact ⟨h, wG_good _ h⟩
  · exact ⟨hw, wG_good _ hw⟩
theorem g_callSW (X : gK p s m args meth c A D cy ad cc nL own) {index : Nat} {y : MethodName} {bytes : ByteArray} {maxL : Nat} {ret : Option FieldType} {rm : Room} {As : List Value} {gc gc' gs' : List va_W} {rv : Option Value} {hh : List (Nat × Nat × Nat × Nat)} (d : decode cc pc = .ok (.invokestatic index, 3)) (hM : CMW l y bytes maxL ret hh rm D cy ad As gc rv gc') (hm : mFW y bytes maxL ret hh As.length) (hv : Cond.static y ∈ wG) (hlink : Cond.methodLink own index y ∈ wG) (hR : rm.frames + 1 ≤ R.frames ∧ 8 + (maxL + 11) + rm.locals ≤ R.locals ∧ cells + rm.cells ≤ R.cells ∧ slots + rm.slots ≤ R.slots)
    (is : List Nat) (gr : List va_W) (hp : is.Perm (List.range gs.length)) (h1 : is.filterMap (fun i => gs[i]?) = gc ++ gr) (hp' : is.Perm (List.range gs'.length)) (h2 : is.filterMap (fun i => gs'[i]?) = gc' ++ gr) (hW : (rest.map fun v => v.category).sum ≤ 8) (hst : st = As.reverse ++ rest) (K : GW p l e R s m args below meth c A D nL (cells + rm.cells) (slots + rm.slots) Q (pc + 3) lv (rv.toList ++ rest) gs') : GW p l e R s m args below meth c A D nL cells slots Q pc lv st gs := by
  intro H locs ls hP hD hS hl
  subst hst
  have q1 := gp_pick hp h1
  have q2 := gp_pick hp' h2
  have hr := vx_runSW (g := F0 m pc ls (As.reverse ++ rest)) (rest := rest) (R := R) (cells := cells) (slots := slots) (below := below) (meth := meth) (e := e) (locs := locs) (n := As.length) (index := index) (bytes := bytes) (maxL := maxL) (ret := ret) (hh := hh) ⟨X.1, X.2.1, X.2.2.1, X.2.2.2.1, X.2.2.2.2.1⟩ (hM H.size)
    ⟨⟨rfl, rfl, hR.1, hR.2.1, pay_in X.2.2.2.2.1 (gWW_good hm.1), List.mem_cons_self⟩, X.2.2.2.2.1 _ hm.1, X.2.2.2.2.1 _ hm.2.1, ⟨hm.2.2.1, hm.2.2.2.1⟩, fun sig h => by have h2 := hm.2.2.2.2; rw [h] at h2; exact (Option.some.inj h2).symm, X.2.2.2.2.1 _ hlink, X.2.2.2.2.1 _ hv⟩
    ⟨cmP_blind, g_pre X q1 hP hD hS _⟩ rfl rfl hl.1 rfl (lv_room hW) d ⟨hR.2.2.1, hR.2.2.2⟩
  exact g_back (y := y) (av := As) (g := F0 m pc ls (As.reverse ++ rest)) X q1 q2.symm hP hD hS hl hr K
/-- a handler: the rows ahead of it don't take the exception -/
theorem g_catch {k : Nat} {hh : List (Nat × Nat × Nat × Nat)} (X : gK p s m args meth c A D cy ad cc nL own) (ht : c.exceptionTable.toList = tableOf hh) (pre : List ExceptionTableEntry) (x : ExceptionTableEntry) (suf : List ExceptionTableEntry) (hsplit : tableOf hh = pre ++ x :: suf)
    (hpass : ∀ z ∈ pre, z.catchType ≠ 0 ∧ ∃ nm : String, Cond.classLink own z.catchType nm ∈ wG ∧ (exN k, nm) ∈ ncTab) (hx : covers x pc = true) (h0 : x.catchType ≠ 0) (hlink : Cond.classLink own x.catchType (exN k) ∈ wG) (hc : exN k ∈ caTab)
    (K : ∀ q : Nat, GW p l e R s m args below meth c A D nL cells slots Q x.handlerPc lv [.ref q] gs) : GX p l e R s m args below meth c A D nL cells slots Q pc lv st gs k :=
  fun H locs ls q ce hP hD hS hl h3 h4 h5 => vx_catch (own := own) (name := exN k) (E := exN k) X.2.2.2.1 pre x suf (ht.trans hsplit) (fun z hz => by
      obtain ⟨a, nm, b1, b2⟩ := hpass z hz
      exact Or.inr ⟨a, nm, X.2.2.2.2.1 _ b1, X.2.2.2.2.2.2.2.2.2.2.2.2.2.2.2.1 _ b2⟩) hx h0 (X.2.2.2.2.1 _ hlink) (va_Nw.use rfl (X.2.2.2.2.2.2.2.2.2.2.2.2.2.2.1 _ hc)) h3 h4 h5 (K q H locs ls hP hD hS hl)
end GWT
theorem exw_names : ∀ n ∈ exNames, Bundle.fit n = true := by decide
theorem xw_1 : xW RX7 67 71 1 := ⟨by decide +kernel, by decide +kernel, fun w h => List.mem_filter.mpr ⟨(by decide +kernel : ∀ w ∈ (vx_atS RX7 71 (exN 1) exNames).filter goodWord, w ∈ lw_tbl) w h, (List.mem_filter.mp h).2⟩, by decide +kernel, by decide +kernel, by decide +kernel⟩
theorem xw_2 : xW RX7 78 82 2 := ⟨by decide +kernel, by decide +kernel, fun w h => List.mem_filter.mpr ⟨(by decide +kernel : ∀ w ∈ (vx_atS RX7 82 (exN 2) exNames).filter goodWord, w ∈ lw_tbl) w h, (List.mem_filter.mp h).2⟩, by decide +kernel, by decide +kernel, by decide +kernel⟩
theorem xw_3 : xW RX7 182 186 3 := ⟨by decide +kernel, by decide +kernel, fun w h => List.mem_filter.mpr ⟨(by decide +kernel : ∀ w ∈ (vx_atS RX7 186 (exN 3) exNames).filter goodWord, w ∈ lw_tbl) w h, (List.mem_filter.mp h).2⟩, by decide +kernel, by decide +kernel, by decide +kernel⟩
