theorem na_0 : Cond.arrayClass .int ∈ wG := wG_in 95 (by decide +kernel) (by decide +kernel)
theorem na_1 : Cond.arrayClass .char ∈ wG := wG_in 78 (by decide +kernel) (by decide +kernel)
/-! ===== constructors: P says what comes back, and what the cells are behind it ===== -/
abbrev AOT : State → Prop := va_AO "FalsePan$Table"
def cxP (D : va_G) (cy : Nat → ClassId) (ad : (Nat → Nat) × (Nat → Nat)) (sz : Nat) (av : List Value) (w0 : va_W) : Array Value → State → Prop :=
  va_Pc av (fun U => U.heap.size = sz ∧ va_P D vwCl w0 U.heap ∧ va_K D vwCl (tyG cy) U ∧ va_D (fun _ => True) w0 ∧ gE ad (va_A w0 sz) U ∧ AOT U)
def cxQ (D : va_G) (cy : Nat → ClassId) (A : Nat → Prop) (P : Option Value → List va_W → Prop) : Array Value → State → Outcome → State → Prop := fun a st oc t =>
  ∃ rv gs, P rv gs ∧ cmQ D cy A rv gs.flatten a st oc t
def CX (l : Launch) (y : MethodName) (cc : ByteArray) (maxL : Nat) (ret : Option FieldType) (rm : Room) (D : va_G) (cy : Nat → ClassId) (ad : (Nat → Nat) × (Nat → Nat)) (av : List Value) (g0 : List va_W) (P : Option Value → List va_W → Prop) : Prop :=
  ∀ sz, Met l y (gW y cc maxL ret) rm (cxP D cy ad sz av g0.flatten) (cxQ D cy (va_A g0.flatten sz) P) rm.cells rm.slots (va_A g0.flatten sz)
theorem cxP_blind {D : va_G} {cy : Nat → ClassId} {ad : (Nat → Nat) × (Nat → Nat)} {sz : Nat} {av : List Value} {w0 : va_W} : FrameBlind (cxP D cy ad sz av w0) := by
  intro a U g mk h
  obtain ⟨h1, h2, h3, h4, h5, h6, h7⟩ := h
  exact ⟨h1, h2, h3, va_K.moved (u := U) (U := U.calling g mk a) (Vm.Alike.refl U.vm) h4, h5, gE_calling h6, va_AO.moved (u := U) (U := U.calling g mk a) (Vm.Alike.refl U.vm) h7⟩
theorem cx_of {l : Launch} {y : MethodName} {cc : ByteArray} {maxL : Nat} {ret : Option FieldType} {rm : Room} {D : va_G} {cy : Nat → ClassId} {ad : (Nat → Nat) × (Nat → Nat)} {av : List Value} {g0 : List va_W} {P : Option Value → List va_W → Prop} {lv0 : List (Nat × Value)}
    (hy : plainName y.cls = true) (hlen : (lg_sl av).length ≤ maxL) (hlv : lv_args 0 av = lv0)
    (body : ∀ {p : Program} {e : Env} {s : State} {m : MethodId} {args : Array Value} {below : List Frame} {meth : Method} {c : Code} {A : Nat → Prop}, gK p s m args meth c A D cy ad cc maxL y.cls → AOT s → meth.sig.returnType = ret → meth.name = y.name →
      GW p l e rm s m args below meth c A D maxL 0 0 (MQ below (cxQ D cy A P) args s rm.cells rm.slots A) 0 lv0 [] g0) : CX l y cc maxL ret rm D cy ad av g0 P := by
  intro sz
  refine Met.ofW (cc := cc) (maxL := maxL) (ret := ret) hy rfl ?_
  intro p e s m args below meth c s₁ B hml hv
  obtain ⟨rfl, hsz, hP, hK, hD0, hE, hO⟩ := hv
  subst hsz
  have hD := hD0.self (sz := s.heap.size)
  have X : gK p s m av.toArray meth c (va_A g0.flatten s.heap.size) D cy ad cc maxL y.cls :=
    ⟨B.exec, B.bytes, hml, findClass_of_methodNamed B.named, fun w h => atoms_spec (ws := gW y cc maxL ret) B.pre w (List.mem_cons_of_mem _ h), hK, fun q h => Or.inr h, B.notSynchronized, hE⟩
  have hl := lv_entry av (n := maxL) hlen
  rw [hlv] at hl
  rw [lg_entry_eq]
  exact body X hO B.returns (name_of_methodNamed B.named B.method).1 _ _ _ hP hD va_S.rf hl
section GWN
variable {p : Program} {l : Launch} {e : Env} {R : Room} {s : State} {m : MethodId} {args : Array Value} {below : List Frame} {meth : Method} {c : Code} {cells slots : Nat} {Q : State → Prop} {A : Nat → Prop} {D : va_G} {cy : Nat → ClassId} {ad : (Nat → Nat) × (Nat → Nat)} {cc : ByteArray} {nL : Nat} {own : String} {pc : Nat} {lv : List (Nat × Value)} {st rest : List Value} {gs : List va_W}
theorem g_cxret {mc ms : Nat} {rv : Option Value} {P : Option Value → List va_W → Prop} (hP : P rv gs) (h1 : cells ≤ mc) (h2 : slots ≤ ms) (K : GW p l e R s m args below meth c A D nL mc ms (MQ below (cmQ D cy A rv gs.flatten) args s mc ms A) pc lv st gs) : GW p l e R s m args below meth c A D nL cells slots (MQ below (cxQ D cy A P) args s mc ms A) pc lv st gs :=
  g_widen h1 h2 (g_mono (fun t ⟨o, b1, b2, b3, b4⟩ => ⟨o, b1, b2, ⟨rv, gs, hP, b3⟩, b4⟩) K)
theorem fl1 {x : Nat × va_E} : (gs ++ [[x]]).flatten = gs.flatten ++ [x] := by
  rw [List.flatten_append]; rfl
theorem g_new (X : gK p s m args meth c A D cy ad cc nL own) {C : String} {T : u_T} {N ci index : Nat} (fs : List Value) (ty : Nat → FieldType) (d : decode cc pc = .ok (.new index, 3)) (hC : vwCl[ci]? = some (C, T, N) ∧ ∀ w ∈ u_ws C T N, w ∈ wG) (hT : (∀ k, k < N → parseFieldDescriptor (T k).2.2.1 = some (ty k)) ∧ (∀ a, a < N → ∀ b, b < N → a ≠ b → (T a).2.1 ≠ (T b).2.1)) (hl : Cond.classLink own index C ∈ wG ∧ Cond.instantiable C N ∈ wG ∧ Cond.initialized C ∈ wG) (hfs : ∀ j, j < N → defaultValue (ty j) = vp_V fs j) (h1 : cells + 1 ≤ R.cells) (h2 : slots + N ≤ R.slots)
    (K : ∀ q : Nat, GW p l e R s m args below meth c A D nL (cells + 1) (slots + N) Q (pc + 3) lv (.ref q :: st) (gs ++ [[(q, .inr (ci, fs))]])) : GW p l e R s m args below meth c A D nL cells slots Q pc lv st gs := fun H locs ls hP hD hS hl9 => by
  refine va_new X.1 X.2.1 X.2.2.2.2.1 hC.2 ty hT.1 X.2.2.2.1 (X.2.2.2.2.1 _ hl.1) (X.2.2.2.2.1 _ hl.2.1) (X.2.2.2.2.1 _ hl.2.2) X.2.2.2.2.2.1 hP hD hS X.2.2.2.2.2.2.1 hC.1 hfs h1 h2 d (fun q H1 hP1 hD1 hS1 => ?_)
  rw [← fl1] at hP1 hD1
  exact K q H1 locs ls hP1 hD1 hS1 hl9
theorem g_newa0 (X : gK p s m args meth c A D cy ad cc nL own) {n : Int32} {N : Nat} (f : Nat → Int32) (hf : f = fun _ => 0) (d : decode cc pc = .ok (.newarray .int, 2)) (hn : ¬ n < 0) (hN : n.toNatClampNeg = N) (hb : N * componentBytes .int ≤ 536870912) (h1 : cells + 1 ≤ R.cells) (h2 : slots + N ≤ R.slots)
    (K : ∀ q : Nat, GW p l e R s m args below meth c A D nL (cells + 1) (slots + N) Q (pc + 2) lv (.ref q :: st) (gs ++ [[(q, .inl (cy 0, N, .inl f))]])) : GW p l e R s m args below meth c A D nL cells slots Q pc lv (.int n :: st) gs := fun H locs ls hP hD hS hl9 => by
  refine va_newa (atype := .int) (a0 := (N, .inl f)) (ty := .int) X.1 X.2.1 (X.2.2.2.2.1 _ na_0) rfl X.2.2.2.2.2.1 hP hD hS X.2.2.2.2.2.2.1 (fun cA => by subst hf; rfl) hn hN hb h1 h2 d (fun q cA H1 hK1 hP1 hD1 hS1 => ?_)
  have e1 := (hK1.2 5 (cA, .int) rfl).2
  have e2 := (X.2.2.2.2.2.1.2 0 (cy 0, .int) rfl).2
  cases (Option.some.inj (Eq.trans (Eq.symm e1) e2))
  rw [← fl1] at hP1 hD1
  exact K q H1 locs ls hP1 hD1 hS1 hl9
theorem g_newa1 (X : gK p s m args meth c A D cy ad cc nL own) {n : Int32} {N : Nat} (f : Nat → Int32) (hf : f = fun _ => 0) (d : decode cc pc = .ok (.newarray .char, 2)) (hn : ¬ n < 0) (hN : n.toNatClampNeg = N) (hb : N * componentBytes .char ≤ 536870912) (h1 : cells + 1 ≤ R.cells) (h2 : slots + N ≤ R.slots)
    (K : ∀ q : Nat, GW p l e R s m args below meth c A D nL (cells + 1) (slots + N) Q (pc + 2) lv (.ref q :: st) (gs ++ [[(q, .inl (cy 1, N, .inl f))]])) : GW p l e R s m args below meth c A D nL cells slots Q pc lv (.int n :: st) gs := fun H locs ls hP hD hS hl9 => by
  refine va_newa (atype := .char) (a0 := (N, .inl f)) (ty := .char) X.1 X.2.1 (X.2.2.2.2.1 _ na_1) rfl X.2.2.2.2.2.1 hP hD hS X.2.2.2.2.2.2.1 (fun cA => by subst hf; rfl) hn hN hb h1 h2 d (fun q cA H1 hK1 hP1 hD1 hS1 => ?_)
  have e1 := (hK1.2 5 (cA, .char) rfl).2
  have e2 := (X.2.2.2.2.2.1.2 1 (cy 1, .char) rfl).2
  cases (Option.some.inj (Eq.trans (Eq.symm e1) e2))
  rw [← fl1] at hP1 hD1
  exact K q H1 locs ls hP1 hD1 hS1 hl9
theorem g_newq (X : gK p s m args meth c A D cy ad cc nL own) (hO : AOT s) {n : Int32} {N index : Nat} (d : decode cc pc = .ok (.anewarray index, 3)) (hl : Cond.classLink own index "FalsePan$Table" ∈ wG) (hn : ¬ n < 0) (hN : n.toNatClampNeg = N) (hb : N * 4 ≤ 536870912) (h1 : cells + 1 ≤ R.cells) (h2 : slots + N ≤ R.slots)
    (K : ∀ q : Nat, GW p l e R s m args below meth c A D nL (cells + 1) (slots + N) Q (pc + 3) lv (.ref q :: st) (gs ++ [[(q, .inl (cy 3, N, .inr (.inr (.inr (.inr (fun _ => none))))))]])) : GW p l e R s m args below meth c A D nL cells slots Q pc lv (.int n :: st) gs := fun H locs ls hP hD hS hl9 => by
  refine va_newq X.1 X.2.1 X.2.2.2.1 (X.2.2.2.2.1 _ hl) hO X.2.2.2.2.2.1 hP hD hS X.2.2.2.2.2.2.1 hn hN hb h1 h2 d (fun q cA H1 hK1 hP1 hD1 hS1 => ?_)
  obtain ⟨-, -, -, -, -, e1⟩ := (hK1.2 5 (cA, .object "FalsePan$Table") rfl).2
  obtain ⟨-, -, -, -, -, e2⟩ := (X.2.2.2.2.2.1.2 3 (cy 3, .object "FalsePan$Table") rfl).2
  cases (Option.some.inj (Eq.trans (Eq.symm e1) e2))
  rw [← fl1] at hP1 hD1
  exact K q H1 locs ls hP1 hD1 hS1 hl9
theorem g_aastore (X : gK p s m args meth c A D cy ad cc nL own) {b n v : Nat} {vs : List Value} {f : Nat → Option Nat} {i : Int32} {gl gv : va_W} {gs' : List va_W} (d : decode cc pc = .ok (.aastore, 1)) (g q : Nat) (h1 : gs[g]? = some gl) (h2 : gl[q]? = some (b, .inl (cy 3, n, .inr (.inr (.inr (.inr f)))))) (g2 q2 : Nat) (h3 : gs[g2]? = some gv) (h4 : gv[q2]? = some (v, .inr (4, vs))) (hin : vp_in i n)
    (hg : gs.set g (gl.set q (b, .inl (cy 3, n, .inr (.inr (.inr (.inr (va_up f i.toNatClampNeg (some v)))))))) = gs') (K : GW p l e R s m args below meth c A D nL cells slots Q (pc + 1) lv st gs') : GW p l e R s m args below meth c A D nL cells slots Q pc lv (.ref v :: .int i :: .ref b :: st) gs := fun H locs ls hP hD hS hl9 => by
  obtain ⟨k, hk, hs⟩ := fl_get gs g q h1 h2
  obtain ⟨k2, hk2, -⟩ := fl_get gs g2 q2 h3 h4
  refine va_astq (r := (RX4, TX4, 10)) X.1 X.2.1 X.2.2.2.2.2.1 hP hD hS k 3 k2 4 hk rfl hk2 rfl hin d (fun H1 locs1 hP1 hD1 hS1 => ?_)
  rw [← hs] at hP1 hD1
  subst hg
  exact K H1 locs1 ls hP1 hD1 hS1 hl9
theorem oi_w : Cond.instanceMethod Lib.objectInit ∈ wG ∧ Cond.code Lib.objectInit ⟨#[0xb1]⟩ 1 none ∈ wG := ⟨wG_in 34 (by decide +kernel) (by decide +kernel), wG_in 35 (by decide +kernel) (by decide +kernel)⟩
theorem g_objInit (X : gK p s m args meth c A D cy ad cc nL own) {idx a : Nat} (d : decode cc pc = .ok (.invokespecial idx, 3)) (hl : Cond.methodLink own idx Lib.objectInit ∈ wG) (hf : 1 ≤ R.frames) (hR : (st.map fun v => v.category).sum + 12 ≤ R.locals) (K : GW p l e R s m args below meth c A D nL cells slots Q (pc + 3) lv st gs) : GW p l e R s m args below meth c A D nL cells slots Q pc lv (.ref a :: st) gs := fun H locs ls hP hD hS hl9 => by
  refine W.objInit (g := F0 m pc ls (.ref a :: st)) X.1 X.2.1 X.2.2.2.1 (X.2.2.2.2.1 _ hl) (X.2.2.2.2.1 _ oi_w.1) (X.2.2.2.2.1 _ oi_w.2) rfl (hl9.1.trans X.2.2.1.symm) rfl d hf (by simpa [F0] using hR) ?_
  exact K H locs ls hP hD hS hl9
/-- two cells that look alike -/
theorem g_fcell {a n : Nat} {cA : ClassId} {f f' : Nat → Option Nat} {w1 : va_W} {gs1 : List va_W} (hf : ∀ j, j < n → f j = f' j) (K : GW p l e R s m args below meth c A D nL cells slots Q pc lv st (((a, .inl (cA, n, .inr (.inr (.inr (.inr f'))))) :: w1) :: gs1)) : GW p l e R s m args below meth c A D nL cells slots Q pc lv st (((a, .inl (cA, n, .inr (.inr (.inr (.inr f))))) :: w1) :: gs1) := fun H locs ls hP hD hS hl9 => by
  have e : vp_cell cA (n, .inr (.inr (.inr (.inr f)))) = vp_cell cA (n, .inr (.inr (.inr (.inr f')))) := by
    rw [vp_cell_q, vp_cell_q]
    unfold arrV
    congr 2
    funext j
    show va_rf (f j.val) = va_rf (f' j.val)
    rw [hf j.val j.isLt]
  refine K H locs ls (fun k q hk => ?_) ⟨fun i j p q hi hj hpq => ?_, fun k q hk => ?_⟩ hS hl9
  · cases k with
    | zero =>
      cases hk
      have h := hP 0 (a, .inl (cA, n, .inr (.inr (.inr (.inr f))))) rfl
      show H[a]? = some (vp_cell cA _)
      rw [← e]
      exact h
    | succ k => exact hP (k + 1) q hk
  · have hm : ∀ (i : Nat) (p : Nat × va_E), ((((a, .inl (cA, n, .inr (.inr (.inr (.inr f'))))) :: w1) :: gs1) : List va_W).flatten[i]? = some p → ∃ p', ((((a, .inl (cA, n, .inr (.inr (.inr (.inr f))))) :: w1) :: gs1) : List va_W).flatten[i]? = some p' ∧ p'.1 = p.1 := by
      intro i p h
      cases i with
      | zero => cases h; exact ⟨_, rfl, rfl⟩
      | succ i => exact ⟨p, h, rfl⟩
    obtain ⟨p', e1, e2⟩ := hm i p hi
    obtain ⟨q', e3, e4⟩ := hm j q hj
    exact hD.1 i j p' q' e1 e3 (by rw [e2, e4]; exact hpq)
  · cases k with
    | zero => cases hk; exact hD.2 0 (a, .inl (cA, n, .inr (.inr (.inr (.inr f))))) rfl
    | succ k => exact hD.2 (k + 1) q hk
theorem g_backX {y : MethodName} {mc ms : Nat} {av : List Value} {gc gr : List va_W} {P : Option Value → List va_W → Prop} {H : Heap} {locs : List Loc} {ls : Array Slot} {g : JFrame} {rest : List Value}
    (X : gK p s m args meth c A D cy ad cc nL own) (h1 : gs.Perm (gc ++ gr)) (hP : va_P D vwCl gs.flatten H) (hD : va_D A gs.flatten) (hS : va_S A s.heap H locs) (hl : lv_has ls nL lv)
    (hr : va_Run p l e R s m args below meth c H locs cells slots mc ms (F0 m pc ls g.stack) rest (cxQ D cy (va_A gc.flatten H.size) P av.toArray) (va_A gc.flatten H.size))
    (K : ∀ rv gc', P rv gc' → GW p l e R s m args below meth c A D nL (cells + mc) (slots + ms) Q (pc + 3) lv (rv.toList ++ rest) (gc' ++ gr)) : W p l e R s m args below meth c H locs cells slots Q (F0 m pc ls g.stack) := by
  intro T hT XS
  obtain ⟨v, st₀, t, T', L, h0, X', hL, e1, e2, ⟨rv, gc', hPr, ⟨⟨hv, hP1, hK1, hD1⟩, hz, hk⟩⟩, st⟩ := hr T hT XS
  cases hv
  rw [h0] at hz hk
  have p1 := gp_fl h1
  rw [List.flatten_append] at p1
  have hP' := gp_P p1 hP
  have hD' := gp_D p1 hD
  have hF : ∀ q, va_A gc.flatten H.size q → A q := by
    intro q h
    rcases h with ⟨k, e9, h⟩ | h
    · have hk9 : k < gc.flatten.length := (List.getElem?_eq_some_iff.mp h).1
      exact hD'.2 k (q, e9) (by rw [List.getElem?_append_left hk9]; exact h)
    · exact X.2.2.2.2.2.2.1 q (Nat.le_trans hS.1 h)
  have hk' : ∀ q : Nat, q < H.size → ¬ va_A gc.flatten H.size q → t.heap[q]? = H[q]? := fun q a b => hk q a b
  obtain ⟨j1, j2⟩ := gp_join (w1 := gc'.flatten) hP' hD' hk' hF hP1 hD1
  rw [← List.flatten_append] at j1 j2
  have hS' : va_S A s.heap t.heap (locs ++ L) := ⟨Nat.le_trans hS.1 hz, fun q a b => by rw [hk q (Nat.lt_of_lt_of_le a hS.1) (fun z => b (hF q z))]; exact hS.2.1 q a b, fun q hq => by
    rcases List.mem_append.mp hq with h | h
    · exact hS.2.2 q h
    · exact hF _ (hL q h)⟩
  obtain ⟨t2, a1, b1⟩ := K _ gc' hPr t.heap (locs ++ L) ls j1 j2 hS' hl T' e1 X'
  exact ⟨t2, st t2 a1, b1⟩
theorem g_preX {gc gr : List va_W} {H : Heap} {locs : List Loc} (X : gK p s m args meth c A D cy ad cc nL own) (hO : AOT s) (h1 : gs.Perm (gc ++ gr)) (hP : va_P D vwCl gs.flatten H) (hD : va_D A gs.flatten) (hS : va_S A s.heap H locs) (av : List Value) :
    ∀ U : State, U.heap = H → s.WarmedH U.vm → cxP D cy ad H.size av gc.flatten av.toArray U := by
  intro U hU hW
  obtain ⟨a1, a2, a3, a4, a5, a6⟩ := g_pre X h1 hP hD hS av U hU hW
  exact ⟨a1, a2, a3, a4, a5, a6, va_AO.moved hW.alike hO⟩
theorem g_cxI (X : gK p s m args meth c A D cy ad cc nL own) (hO : AOT s) {index : Nat} {y : MethodName} {bytes : ByteArray} {maxL : Nat} {rm : Room} {As : List Value} {gc : List va_W} {P : Option Value → List va_W → Prop} {b : Nat} (d : decode cc pc = .ok (.invokespecial index, 3)) (hM : CX l y bytes maxL none rm D cy ad (.ref b :: As) gc P) (hm : mF y bytes maxL none As.length) (hv : Cond.instanceMethod y ∈ wG) (hn : y.name = "<init>") (hlink : Cond.methodLink own index y ∈ wG) (hR : rm.frames + 1 ≤ R.frames ∧ 8 + (maxL + 11) + rm.locals ≤ R.locals ∧ cells + rm.cells ≤ R.cells ∧ slots + rm.slots ≤ R.slots)
    (is : List Nat) (gr : List va_W) (hp : is.Perm (List.range gs.length)) (h1 : is.filterMap (fun i => gs[i]?) = gc ++ gr) (hW : (rest.map fun v => v.category).sum ≤ 8) (hst : st = As.reverse ++ .ref b :: rest) (K : ∀ rv gc', P rv gc' → GW p l e R s m args below meth c A D nL (cells + rm.cells) (slots + rm.slots) Q (pc + 3) lv (rv.toList ++ rest) (gc' ++ gr)) : GW p l e R s m args below meth c A D nL cells slots Q pc lv st gs := by
  intro H locs ls hP hD hS hl
  subst hst
  have q1 := gp_pick hp h1
  have hr := va_runI (g := F0 m pc ls (As.reverse ++ .ref b :: rest)) (rest := rest) (R := R) (cells := cells) (slots := slots) (below := below) (meth := meth) (e := e) (locs := locs) (n := As.length) (index := index) (bytes := bytes) (maxL := maxL) ⟨X.1, X.2.1, X.2.2.1, X.2.2.2.1, X.2.2.2.2.1⟩ (hM H.size)
    ⟨callB_of As.length X.2.2.2.2.1 (gW_good hm.1) rfl rfl rfl (X.2.2.2.2.1 _ hm.2.1) (X.2.2.2.2.1 _ hlink) hm.2.2 ⟨hR.1, hR.2.1⟩, hn, X.2.2.2.2.1 _ hv⟩
    ⟨cxP_blind, g_preX X hO q1 hP hD hS _⟩ rfl rfl hl.1 rfl (lv_room hW) d ⟨hR.2.2.1, hR.2.2.2⟩
  exact g_backX (y := y) (av := .ref b :: As) (g := F0 m pc ls (As.reverse ++ .ref b :: rest)) X q1 hP hD hS hl hr K
theorem g_cxIN (X : gK p s m args meth c A D cy ad cc nL own) (hO : AOT s) {index : Nat} {y : MethodName} {bytes : ByteArray} {maxL : Nat} {rm : Room} {As : List Value} {gc : List va_W} {P : Option Value → List va_W → Prop} {host : String} {b : Nat} (d : decode cc pc = .ok (.invokespecial index, 3)) (hM : CX l y bytes maxL none rm D cy ad (.ref b :: As) gc P) (hm : mF y bytes maxL none As.length) (hv : Cond.instanceMethod y ∈ wG) (hn : y.name = "<init>") (hlink : (own, index, y, host) ∈ neTab) (hR : rm.frames + 1 ≤ R.frames ∧ 8 + (maxL + 11) + rm.locals ≤ R.locals ∧ cells + rm.cells ≤ R.cells ∧ slots + rm.slots ≤ R.slots)
    (is : List Nat) (gr : List va_W) (hp : is.Perm (List.range gs.length)) (h1 : is.filterMap (fun i => gs[i]?) = gc ++ gr) (hW : (rest.map fun v => v.category).sum ≤ 8) (hst : st = As.reverse ++ .ref b :: rest) (K : ∀ rv gc', P rv gc' → GW p l e R s m args below meth c A D nL (cells + rm.cells) (slots + rm.slots) Q (pc + 3) lv (rv.toList ++ rest) (gc' ++ gr)) : GW p l e R s m args below meth c A D nL cells slots Q pc lv st gs := by
  intro H locs ls hP hD hS hl
  subst hst
  have q1 := gp_pick hp h1
  have hr := va_runIN (g := F0 m pc ls (As.reverse ++ .ref b :: rest)) (rest := rest) (R := R) (cells := cells) (slots := slots) (below := below) (meth := meth) (e := e) (locs := locs) (n := As.length) (index := index) (bytes := bytes) (maxL := maxL) (host := host) ⟨X.1, X.2.1, X.2.2.1, X.2.2.2.1, X.2.2.2.2.1⟩ (hM H.size)
    ⟨va_cnB As.length X.2.2.2.2.1 (gW_good hm.1) rfl rfl rfl (X.2.2.2.2.2.2.2.2.2.2.2.2.2.1 _ hlink) (X.2.2.2.2.1 _ hm.2.1) hm.2.2 ⟨hR.1, hR.2.1⟩, hn, X.2.2.2.2.1 _ hv⟩
    ⟨cxP_blind, g_preX X hO q1 hP hD hS _⟩ rfl rfl hl.1 rfl (lv_room hW) d ⟨hR.2.2.1, hR.2.2.2⟩
  exact g_backX (y := y) (av := .ref b :: As) (g := F0 m pc ls (As.reverse ++ .ref b :: rest)) X q1 hP hD hS hl hr K
theorem g_cxS (X : gK p s m args meth c A D cy ad cc nL own) (hO : AOT s) {index : Nat} {y : MethodName} {bytes : ByteArray} {maxL : Nat} {rm : Room} {As : List Value} {gc : List va_W} {P : Option Value → List va_W → Prop} {ret : Option FieldType} (d : decode cc pc = .ok (.invokestatic index, 3)) (hM : CX l y bytes maxL ret rm D cy ad As gc P) (hm : mF y bytes maxL ret As.length) (hv : Cond.static y ∈ wG) (hlink : Cond.methodLink own index y ∈ wG) (hR : rm.frames + 1 ≤ R.frames ∧ 8 + (maxL + 11) + rm.locals ≤ R.locals ∧ cells + rm.cells ≤ R.cells ∧ slots + rm.slots ≤ R.slots)
    (is : List Nat) (gr : List va_W) (hp : is.Perm (List.range gs.length)) (h1 : is.filterMap (fun i => gs[i]?) = gc ++ gr) (hW : (rest.map fun v => v.category).sum ≤ 8) (hst : st = As.reverse ++ rest) (K : ∀ rv gc', P rv gc' → GW p l e R s m args below meth c A D nL (cells + rm.cells) (slots + rm.slots) Q (pc + 3) lv (rv.toList ++ rest) (gc' ++ gr)) : GW p l e R s m args below meth c A D nL cells slots Q pc lv st gs := by
  intro H locs ls hP hD hS hl
  subst hst
  have q1 := gp_pick hp h1
  have hr := va_runS (g := F0 m pc ls (As.reverse ++ rest)) (rest := rest) (R := R) (cells := cells) (slots := slots) (below := below) (meth := meth) (e := e) (locs := locs) (n := As.length) (index := index) (bytes := bytes) (maxL := maxL) (ret := ret) ⟨X.1, X.2.1, X.2.2.1, X.2.2.2.1, X.2.2.2.2.1⟩ (hM H.size)
    ⟨callB_of As.length X.2.2.2.2.1 (gW_good hm.1) rfl rfl rfl (X.2.2.2.2.1 _ hm.2.1) (X.2.2.2.2.1 _ hlink) hm.2.2 ⟨hR.1, hR.2.1⟩, X.2.2.2.2.1 _ hv⟩
    ⟨cxP_blind, g_preX X hO q1 hP hD hS _⟩ rfl rfl hl.1 rfl (lv_room hW) d ⟨hR.2.2.1, hR.2.2.2⟩
  exact g_backX (y := y) (av := As) (g := F0 m pc ls (As.reverse ++ rest)) X q1 hP hD hS hl hr K
end GWN
abbrev zX7 : List Value := [.null, .null, .null, .null, .null, .null, .null, .null, .null]
theorem zz_X7 : ∀ j, j < 9 → defaultValue (tyX7 j) = vp_V zX7 j := fun j hj => by
  match j, hj with
  | 0, _ => rfl
  | 1, _ => rfl
  | 2, _ => rfl
  | 3, _ => rfl
  | 4, _ => rfl
  | 5, _ => rfl
  | 6, _ => rfl
  | 7, _ => rfl
  | 8, _ => rfl
  | j + 9, h => exact absurd h (by omega)
abbrev zX6 : List Value := [.null, .int 0, .int 0, .int 0, .int 0, .int 0, .int 0, .int 0, .int 0]
theorem zz_X6 : ∀ j, j < 9 → defaultValue (tyX6 j) = vp_V zX6 j := fun j hj => by
  match j, hj with
  | 0, _ => rfl
  | 1, _ => rfl
  | 2, _ => rfl
  | 3, _ => rfl
  | 4, _ => rfl
  | 5, _ => rfl
  | 6, _ => rfl
  | 7, _ => rfl
  | 8, _ => rfl
  | j + 9, h => exact absurd h (by omega)
abbrev zX4 : List Value := [.int 0, .int 0, .int 0, .int 0, .int 0, .int 0, .int 0, .null, .null, .null]
theorem zz_X4 : ∀ j, j < 10 → defaultValue (tyX4 j) = vp_V zX4 j := fun j hj => by
  match j, hj with
  | 0, _ => rfl
  | 1, _ => rfl
  | 2, _ => rfl
  | 3, _ => rfl
  | 4, _ => rfl
  | 5, _ => rfl
  | 6, _ => rfl
  | 7, _ => rfl
  | 8, _ => rfl
  | 9, _ => rfl
  | j + 10, h => exact absurd h (by omega)
abbrev zX3 : List Value := [.null]
theorem zz_X3 : ∀ j, j < 1 → defaultValue (tyX3 j) = vp_V zX3 j := fun j hj => by
  match j, hj with
  | 0, _ => rfl
  | j + 1, h => exact absurd h (by omega)
abbrev zX1 : List Value := [.int 0, .int 0, .int 0, .int 0, .int 0, .int 0]
theorem zz_X1 : ∀ j, j < 6 → defaultValue (tyX1 j) = vp_V zX1 j := fun j hj => by
  match j, hj with
  | 0, _ => rfl
  | 1, _ => rfl
  | 2, _ => rfl
  | 3, _ => rfl
  | 4, _ => rfl
  | 5, _ => rfl
  | j + 6, h => exact absurd h (by omega)
abbrev zX0 : List Value := [.null, .int 0, .int 0]
theorem zz_X0 : ∀ j, j < 3 → defaultValue (tyX0 j) = vp_V zX0 j := fun j hj => by
  match j, hj with
  | 0, _ => rfl
  | 1, _ => rfl
  | 2, _ => rfl
  | j + 3, h => exact absurd h (by omega)
abbrev zX2 : List Value := [.null, .int 0]
theorem zz_X2 : ∀ j, j < 2 → defaultValue (tyX2 j) = vp_V zX2 j := fun j hj => by
  match j, hj with
  | 0, _ => rfl
  | 1, _ => rfl
  | j + 2, h => exact absurd h (by omega)
abbrev zX5 : List Value := [.int 0, .int 0, .int 0]
theorem zz_X5 : ∀ j, j < 3 → defaultValue (tyX5 j) = vp_V zX5 j := fun j hj => by
  match j, hj with
  | 0, _ => rfl
  | 1, _ => rfl
  | 2, _ => rfl
  | j + 3, h => exact absurd h (by omega)
theorem lkn2_X7_7 : Cond.classLink RX7 7 RX6 ∈ wG ∧ Cond.instantiable RX6 9 ∈ wG ∧ Cond.initialized RX6 ∈ wG := ⟨wG_in 36 (by decide +kernel) (by decide +kernel), wG_in 37 (by decide +kernel) (by decide +kernel), wG_in 8 (by decide +kernel) (by decide +kernel)⟩
theorem lkn2_X7_16 : Cond.classLink RX7 16 RX4 ∈ wG ∧ Cond.instantiable RX4 10 ∈ wG ∧ Cond.initialized RX4 ∈ wG := ⟨wG_in 79 (by decide +kernel) (by decide +kernel), wG_in 80 (by decide +kernel) (by decide +kernel), wG_in 9 (by decide +kernel) (by decide +kernel)⟩
theorem lkn2_X7_26 : Cond.classLink RX7 26 RX0 ∈ wG ∧ Cond.instantiable RX0 3 ∈ wG ∧ Cond.initialized RX0 ∈ wG := ⟨wG_in 161 (by decide +kernel) (by decide +kernel), wG_in 162 (by decide +kernel) (by decide +kernel), wG_in 12 (by decide +kernel) (by decide +kernel)⟩
theorem lkn2_X7_33 : Cond.classLink RX7 33 RX2 ∈ wG ∧ Cond.instantiable RX2 2 ∈ wG ∧ Cond.initialized RX2 ∈ wG := ⟨wG_in 181 (by decide +kernel) (by decide +kernel), wG_in 182 (by decide +kernel) (by decide +kernel), wG_in 13 (by decide +kernel) (by decide +kernel)⟩
theorem lkn2_X7_43 : Cond.classLink RX7 43 RX5 ∈ wG ∧ Cond.instantiable RX5 3 ∈ wG ∧ Cond.initialized RX5 ∈ wG := ⟨wG_in 197 (by decide +kernel) (by decide +kernel), wG_in 198 (by decide +kernel) (by decide +kernel), wG_in 14 (by decide +kernel) (by decide +kernel)⟩
theorem lkn2_X0_9 : Cond.classLink RX0 9 RX4 ∈ wG ∧ Cond.instantiable RX4 10 ∈ wG ∧ Cond.initialized RX4 ∈ wG := ⟨wG_in 167 (by decide +kernel) (by decide +kernel), wG_in 80 (by decide +kernel) (by decide +kernel), wG_in 9 (by decide +kernel) (by decide +kernel)⟩
theorem lkn2_X2_7 : Cond.classLink RX2 7 RX4 ∈ wG ∧ Cond.instantiable RX4 10 ∈ wG ∧ Cond.initialized RX4 ∈ wG := ⟨wG_in 187 (by decide +kernel) (by decide +kernel), wG_in 80 (by decide +kernel) (by decide +kernel), wG_in 9 (by decide +kernel) (by decide +kernel)⟩
theorem lkn2_X4_15 : Cond.classLink RX4 15 RX3 ∈ wG ∧ Cond.instantiable RX3 1 ∈ wG ∧ Cond.initialized RX3 ∈ wG := ⟨wG_in 85 (by decide +kernel) (by decide +kernel), wG_in 86 (by decide +kernel) (by decide +kernel), wG_in 10 (by decide +kernel) (by decide +kernel)⟩
theorem lkn2_X4_22 : Cond.classLink RX4 22 RX1 ∈ wG ∧ Cond.instantiable RX1 6 ∈ wG ∧ Cond.initialized RX1 ∈ wG := ⟨wG_in 96 (by decide +kernel) (by decide +kernel), wG_in 97 (by decide +kernel) (by decide +kernel), wG_in 11 (by decide +kernel) (by decide +kernel)⟩
theorem lkn2_L_8 : Cond.classLink RL 8 RX7 ∈ wG ∧ Cond.instantiable RX7 9 ∈ wG ∧ Cond.initialized RX7 ∈ wG := ⟨wG_in 28 (by decide +kernel) (by decide +kernel), wG_in 29 (by decide +kernel) (by decide +kernel), wG_in 7 (by decide +kernel) (by decide +kernel)⟩
abbrev rmX1_init : Room := ({ frames := 1, cells := 0, slots := 0, locals := 12 } : Room)
abbrev rmX5_init : Room := ({ frames := 1, cells := 0, slots := 0, locals := 12 } : Room)
abbrev rmX3_init : Room := ({ frames := 1, cells := 1, slots := 6, locals := 12 } : Room)
abbrev rmX4_init : Room := ({ frames := 2, cells := 4, slots := 133, locals := 40 } : Room)
abbrev rmX2_init : Room := ({ frames := 3, cells := 5, slots := 143, locals := 70 } : Room)
abbrev rmX6_init : Room := ({ frames := 1, cells := 1, slots := 120, locals := 12 } : Room)
abbrev rmX0_init : Room := ({ frames := 3, cells := 71, slots := 2016, locals := 80 } : Room)
abbrev hrZ : HRv := fun _ => ((0, 0, 0, 0, 0, 0, 0, (fun _ => (0 : Int32))), (fun _ => (0 : Int32)), (0, 0, 0, 0, 0, 0))
set_option maxRecDepth 100000 in
set_option maxHeartbeats 4000000 in
theorem c_X1_init (l : Launch) (D : va_G) (cy : Nat → ClassId) (ad : (Nat → Nat) × (Nat → Nat)) (h0 : Nat) : CX l yX1_init cX1_init 1 none rmX1_init D cy ad [.ref h0] [[(h0, .inr (1, zX1))]] (fun rv gs => rv = none ∧ gs = [SC h0 (0, 0, 0, 0, 0, 0)]) := by
  refine cx_of (lv0 := [(0, .ref h0)]) (by decide) (Nat.le_of_ble_eq_true rfl) rfl ?_
  intro p e s m args below meth c A X hO hr hn
  have X : gK p s m args meth c A D cy ad cX1_init 1 RX1 := X
  refine g_aload_n X dX1_init_0 0 rfl rfl ?_
  refine g_objInit X dX1_init_1 lkm_X1_3 (Nat.le_of_ble_eq_true rfl) (Nat.le_of_ble_eq_true rfl) ?_
  exact g_cxret (P := (fun rv gs => rv = none ∧ gs = [SC h0 (0, 0, 0, 0, 0, 0)])) (rv := none) ⟨rfl, rfl⟩ (Nat.le_of_ble_eq_true rfl) (Nat.le_of_ble_eq_true rfl) (g_vret X hr dX1_init_4)
set_option maxRecDepth 100000 in
set_option maxHeartbeats 4000000 in
theorem c_X5_init (l : Launch) (D : va_G) (cy : Nat → ClassId) (ad : (Nat → Nat) × (Nat → Nat)) (h0 : Nat) : CX l yX5_init cX5_init 1 none rmX5_init D cy ad [.ref h0] [[(h0, .inr (5, zX5))]] (fun rv gs => rv = none ∧ gs = [TA h0 (0, 0, 0)]) := by
  refine cx_of (lv0 := [(0, .ref h0)]) (by decide) (Nat.le_of_ble_eq_true rfl) rfl ?_
  intro p e s m args below meth c A X hO hr hn
  have X : gK p s m args meth c A D cy ad cX5_init 1 RX5 := X
  refine g_aload_n X dX5_init_0 0 rfl rfl ?_
  refine g_objInit X dX5_init_1 lkm_X5_1 (Nat.le_of_ble_eq_true rfl) (Nat.le_of_ble_eq_true rfl) ?_
  exact g_cxret (P := (fun rv gs => rv = none ∧ gs = [TA h0 (0, 0, 0)])) (rv := none) ⟨rfl, rfl⟩ (Nat.le_of_ble_eq_true rfl) (Nat.le_of_ble_eq_true rfl) (g_vret X hr dX5_init_4)
theorem g_gs {p : Program} {l : Launch} {e : Env} {R : Room} {s : State} {m : MethodId} {args : Array Value} {below : List Frame} {meth : Method} {c : Code} {cells slots : Nat} {Q : State → Prop} {A : Nat → Prop} {D : va_G} {nL pc : Nat} {lv : List (Nat × Value)} {st : List Value} {gs gs' : List va_W} (h : gs = gs') (K : GW p l e R s m args below meth c A D nL cells slots Q pc lv st gs') : GW p l e R s m args below meth c A D nL cells slots Q pc lv st gs := h ▸ K
set_option maxRecDepth 100000 in
set_option maxHeartbeats 4000000 in
theorem c_X3_init (l : Launch) (D : va_G) (cy : Nat → ClassId) (ad : (Nat → Nat) × (Nat → Nat)) (h0 : Nat) : CX l yX3_init cX3_init 1 none rmX3_init D cy ad [.ref h0] [[(h0, .inr (3, zX3))]] (fun rv gs => ∃ a : Nat, rv = none ∧ gs = [SU cy h0 a (fun _ => (0 : Int32))]) := by
  refine cx_of (lv0 := [(0, .ref h0)]) (by decide) (Nat.le_of_ble_eq_true rfl) rfl ?_
  intro p e s m args below meth c A X hO hr hn
  have X : gK p s m args meth c A D cy ad cX3_init 1 RX3 := X
  refine g_aload_n X dX3_init_0 0 rfl rfl ?_
  refine g_objInit X dX3_init_1 lkm_X3_3 (Nat.le_of_ble_eq_true rfl) (Nat.le_of_ble_eq_true rfl) ?_
  refine g_aload_n X dX3_init_4 0 rfl rfl ?_
  refine g_bipush X (6 : Int32) dX3_init_5 (by decide) ?_
  refine g_newa0 X (fun _ => (0 : Int32)) rfl dX3_init_7 (by decide) (N := 6) (by decide) (by decide) (Nat.le_of_ble_eq_true rfl) (Nat.le_of_ble_eq_true rfl) (fun q1 => ?_)
  refine g_putF (gs' := [[(h0, .inr (3, [.ref q1]))], [(q1, .inl (cy 0, 6, .inl (fun _ => (0 : Int32))))]]) X hn dX3_init_9 ck_X3 ct_X3 0 0 0 rfl rfl (Nat.le_of_ble_eq_true rfl) lkf_X3_9 rfl rfl rfl rfl (Nat.le_of_ble_eq_true rfl) rfl ?_
  refine g_regroup (gs' := [SU cy h0 q1 (fun _ => (0 : Int32))]) rfl ?_
  exact g_cxret (P := (fun rv gs => ∃ a : Nat, rv = none ∧ gs = [SU cy h0 a (fun _ => (0 : Int32))])) (rv := none) ⟨q1, rfl, rfl⟩ (Nat.le_of_ble_eq_true rfl) (Nat.le_of_ble_eq_true rfl) (g_vret X hr dX3_init_12)
set_option maxRecDepth 100000 in
set_option maxHeartbeats 4000000 in
theorem c_X6_init (l : Launch) (D : va_G) (cy : Nat → ClassId) (ad : (Nat → Nat) × (Nat → Nat)) (h0 : Nat) : CX l yX6_init cX6_init 1 none rmX6_init D cy ad [.ref h0] [[(h0, .inr (6, zX6))]] (fun rv gs => ∃ a : Nat, rv = none ∧ gs = [TX cy h0 a (0, 0, 0, 0, 0, 0, 0, 0, (fun _ => (0 : Int32)))]) := by
  refine cx_of (lv0 := [(0, .ref h0)]) (by decide) (Nat.le_of_ble_eq_true rfl) rfl ?_
  intro p e s m args below meth c A X hO hr hn
  have X : gK p s m args meth c A D cy ad cX6_init 1 RX6 := X
  refine g_aload_n X dX6_init_0 0 rfl rfl ?_
  refine g_objInit X dX6_init_1 lkm_X6_3 (Nat.le_of_ble_eq_true rfl) (Nat.le_of_ble_eq_true rfl) ?_
  refine g_aload_n X dX6_init_4 0 rfl rfl ?_
  refine g_bipush X (120 : Int32) dX6_init_5 (by decide) ?_
  refine g_newa1 X (fun _ => (0 : Int32)) rfl dX6_init_7 (by decide) (N := 120) (by decide) (by decide) (Nat.le_of_ble_eq_true rfl) (Nat.le_of_ble_eq_true rfl) (fun q1 => ?_)
  refine g_putF (gs' := [[(h0, .inr (6, [.ref q1, .int 0, .int 0, .int 0, .int 0, .int 0, .int 0, .int 0, .int 0]))], [(q1, .inl (cy 1, 120, .inl (fun _ => (0 : Int32))))]]) X hn dX6_init_9 ck_X6 ct_X6 0 0 0 rfl rfl (Nat.le_of_ble_eq_true rfl) lkf_X6_9 rfl rfl rfl rfl (Nat.le_of_ble_eq_true rfl) rfl ?_
  refine g_regroup (gs' := [TX cy h0 q1 (0, 0, 0, 0, 0, 0, 0, 0, (fun _ => (0 : Int32)))]) rfl ?_
  exact g_cxret (P := (fun rv gs => ∃ a : Nat, rv = none ∧ gs = [TX cy h0 a (0, 0, 0, 0, 0, 0, 0, 0, (fun _ => (0 : Int32)))])) (rv := none) ⟨q1, rfl, rfl⟩ (Nat.le_of_ble_eq_true rfl) (Nat.le_of_ble_eq_true rfl) (g_vret X hr dX6_init_12)
set_option maxRecDepth 100000 in
set_option maxHeartbeats 4000000 in
theorem c_X4_init (l : Launch) (D : va_G) (cy : Nat → ClassId) (ad : (Nat → Nat) × (Nat → Nat)) (h0 : Nat) : CX l yX4_init cX4_init 1 none rmX4_init D cy ad [.ref h0] [[(h0, .inr (4, zX4))]] (fun rv gs => ∃ a : Nat, ∃ b : Nat, ∃ c : Nat, ∃ d : Nat, rv = none ∧ gs = [TB cy h0 a b c (0, 0, 0, 0, 0, 0, 0, (fun _ => (0 : Int32))), SU cy b d (fun _ => (0 : Int32)), SC c (0, 0, 0, 0, 0, 0)]) := by
  refine cx_of (lv0 := [(0, .ref h0)]) (by decide) (Nat.le_of_ble_eq_true rfl) rfl ?_
  intro p e s m args below meth c A X hO hr hn
  have X : gK p s m args meth c A D cy ad cX4_init 1 RX4 := X
  refine g_aload_n X dX4_init_0 0 rfl rfl ?_
  refine g_objInit X dX4_init_1 lkm_X4_3 (Nat.le_of_ble_eq_true rfl) (Nat.le_of_ble_eq_true rfl) ?_
  refine g_aload_n X dX4_init_4 0 rfl rfl ?_
  refine g_bipush X (120 : Int32) dX4_init_5 (by decide) ?_
  refine g_newa0 X (fun _ => (0 : Int32)) rfl dX4_init_7 (by decide) (N := 120) (by decide) (by decide) (Nat.le_of_ble_eq_true rfl) (Nat.le_of_ble_eq_true rfl) (fun q1 => ?_)
  refine g_putF (gs' := [[(h0, .inr (4, [.int 0, .int 0, .int 0, .int 0, .int 0, .int 0, .int 0, .ref q1, .null, .null]))], [(q1, .inl (cy 0, 120, .inl (fun _ => (0 : Int32))))]]) X hn dX4_init_9 ck_X4 ct_X4 0 0 7 rfl rfl (Nat.le_of_ble_eq_true rfl) lkf_X4_9 rfl rfl rfl rfl (Nat.le_of_ble_eq_true rfl) rfl ?_
  refine g_aload_n X dX4_init_12 0 rfl rfl ?_
  refine g_new X zX3 tyX3 dX4_init_13 ck_X3 ct_X3 lkn2_X4_15 zz_X3 (Nat.le_of_ble_eq_true rfl) (Nat.le_of_ble_eq_true rfl) (fun q2 => ?_)
  refine g_dup X dX4_init_16 rfl ?_
  refine g_gs (gs' := [[(h0, .inr (4, [.int 0, .int 0, .int 0, .int 0, .int 0, .int 0, .int 0, .ref q1, .null, .null]))], [(q1, .inl (cy 0, 120, .inl (fun _ => (0 : Int32))))], [(q2, .inr (3, zX3))]]) rfl ?_
  refine g_cxIN (gc := [[(q2, .inr (3, zX3))]]) (gr := [[(h0, .inr (4, [.int 0, .int 0, .int 0, .int 0, .int 0, .int 0, .int 0, .ref q1, .null, .null]))], [(q1, .inl (cy 0, 120, .inl (fun _ => (0 : Int32))))]]) (As := []) (rest := [.ref q2, .ref h0]) X hO dX4_init_17 (c_X3_init l D cy ad q2) mf_X3_init mi_X3_init rfl lkn_X4_17 ⟨(Nat.le_of_ble_eq_true rfl), (Nat.le_of_ble_eq_true rfl), (Nat.le_of_ble_eq_true rfl), (Nat.le_of_ble_eq_true rfl)⟩ [2, 0, 1] (by decide : ([2, 0, 1] : List Nat).Perm (List.range 3)) rfl (Nat.le_of_ble_eq_true rfl) rfl ?_
  rintro _ _ ⟨q2a, rfl, rfl⟩
  refine g_gs (gs' := [SU cy q2 q2a (fun _ => (0 : Int32)), [(h0, .inr (4, [.int 0, .int 0, .int 0, .int 0, .int 0, .int 0, .int 0, .ref q1, .null, .null]))], [(q1, .inl (cy 0, 120, .inl (fun _ => (0 : Int32))))]]) rfl ?_
  refine g_perm (gp_pick (out := [[(h0, .inr (4, [.int 0, .int 0, .int 0, .int 0, .int 0, .int 0, .int 0, .ref q1, .null, .null]))], [(q1, .inl (cy 0, 120, .inl (fun _ => (0 : Int32))))], SU cy q2 q2a (fun _ => (0 : Int32))]) (by decide : ([1, 2, 0] : List Nat).Perm (List.range 3)) rfl) ?_
  refine g_putF (gs' := [[(h0, .inr (4, [.int 0, .int 0, .int 0, .int 0, .int 0, .int 0, .int 0, .ref q1, .ref q2, .null]))], [(q1, .inl (cy 0, 120, .inl (fun _ => (0 : Int32))))], SU cy q2 q2a (fun _ => (0 : Int32))]) X hn dX4_init_20 ck_X4 ct_X4 0 0 8 rfl rfl (Nat.le_of_ble_eq_true rfl) lkf_X4_18 rfl rfl rfl rfl (Nat.le_of_ble_eq_true rfl) rfl ?_
  refine g_aload_n X dX4_init_23 0 rfl rfl ?_
  refine g_new X zX1 tyX1 dX4_init_24 ck_X1 ct_X1 lkn2_X4_22 zz_X1 (Nat.le_of_ble_eq_true rfl) (Nat.le_of_ble_eq_true rfl) (fun q3 => ?_)
  refine g_dup X dX4_init_27 rfl ?_
  refine g_gs (gs' := [[(h0, .inr (4, [.int 0, .int 0, .int 0, .int 0, .int 0, .int 0, .int 0, .ref q1, .ref q2, .null]))], [(q1, .inl (cy 0, 120, .inl (fun _ => (0 : Int32))))], SU cy q2 q2a (fun _ => (0 : Int32)), [(q3, .inr (1, zX1))]]) rfl ?_
  refine g_cxIN (gc := [[(q3, .inr (1, zX1))]]) (gr := [[(h0, .inr (4, [.int 0, .int 0, .int 0, .int 0, .int 0, .int 0, .int 0, .ref q1, .ref q2, .null]))], [(q1, .inl (cy 0, 120, .inl (fun _ => (0 : Int32))))], SU cy q2 q2a (fun _ => (0 : Int32))]) (As := []) (rest := [.ref q3, .ref h0]) X hO dX4_init_28 (c_X1_init l D cy ad q3) mf_X1_init mi_X1_init rfl lkn_X4_24 ⟨(Nat.le_of_ble_eq_true rfl), (Nat.le_of_ble_eq_true rfl), (Nat.le_of_ble_eq_true rfl), (Nat.le_of_ble_eq_true rfl)⟩ [3, 0, 1, 2] (by decide : ([3, 0, 1, 2] : List Nat).Perm (List.range 4)) rfl (Nat.le_of_ble_eq_true rfl) rfl ?_
  rintro _ _ ⟨rfl, rfl⟩
  refine g_gs (gs' := [SC q3 (0, 0, 0, 0, 0, 0), [(h0, .inr (4, [.int 0, .int 0, .int 0, .int 0, .int 0, .int 0, .int 0, .ref q1, .ref q2, .null]))], [(q1, .inl (cy 0, 120, .inl (fun _ => (0 : Int32))))], SU cy q2 q2a (fun _ => (0 : Int32))]) rfl ?_
  refine g_perm (gp_pick (out := [[(h0, .inr (4, [.int 0, .int 0, .int 0, .int 0, .int 0, .int 0, .int 0, .ref q1, .ref q2, .null]))], [(q1, .inl (cy 0, 120, .inl (fun _ => (0 : Int32))))], SU cy q2 q2a (fun _ => (0 : Int32)), SC q3 (0, 0, 0, 0, 0, 0)]) (by decide : ([1, 2, 3, 0] : List Nat).Perm (List.range 4)) rfl) ?_
  refine g_putF (gs' := [[(h0, .inr (4, [.int 0, .int 0, .int 0, .int 0, .int 0, .int 0, .int 0, .ref q1, .ref q2, .ref q3]))], [(q1, .inl (cy 0, 120, .inl (fun _ => (0 : Int32))))], SU cy q2 q2a (fun _ => (0 : Int32)), SC q3 (0, 0, 0, 0, 0, 0)]) X hn dX4_init_31 ck_X4 ct_X4 0 0 9 rfl rfl (Nat.le_of_ble_eq_true rfl) lkf_X4_25 rfl rfl rfl rfl (Nat.le_of_ble_eq_true rfl) rfl ?_
  refine g_regroup (gs' := [TB cy h0 q1 q2 q3 (0, 0, 0, 0, 0, 0, 0, (fun _ => (0 : Int32))), SU cy q2 q2a (fun _ => (0 : Int32)), SC q3 (0, 0, 0, 0, 0, 0)]) rfl ?_
  exact g_cxret (P := (fun rv gs => ∃ a : Nat, ∃ b : Nat, ∃ c : Nat, ∃ d : Nat, rv = none ∧ gs = [TB cy h0 a b c (0, 0, 0, 0, 0, 0, 0, (fun _ => (0 : Int32))), SU cy b d (fun _ => (0 : Int32)), SC c (0, 0, 0, 0, 0, 0)])) (rv := none) ⟨q1, q2, q3, q2a, rfl, rfl⟩ (Nat.le_of_ble_eq_true rfl) (Nat.le_of_ble_eq_true rfl) (g_vret X hr dX4_init_34)
set_option maxRecDepth 100000 in
set_option maxHeartbeats 4000000 in
theorem c_X2_init (l : Launch) (D : va_G) (cy : Nat → ClassId) (ad : (Nat → Nat) × (Nat → Nat)) (h0 : Nat) : CX l yX2_init cX2_init 1 none rmX2_init D cy ad [.ref h0] [[(h0, .inr (2, zX2))]] (fun rv gs => ∃ a : Nat, ∃ b : Nat, ∃ c : Nat, ∃ d : Nat, ∃ f : Nat, rv = none ∧ gs = [SL h0 a 0, TB cy a b c d (0, 0, 0, 0, 0, 0, 0, (fun _ => (0 : Int32))), SU cy c f (fun _ => (0 : Int32)), SC d (0, 0, 0, 0, 0, 0)]) := by
  refine cx_of (lv0 := [(0, .ref h0)]) (by decide) (Nat.le_of_ble_eq_true rfl) rfl ?_
  intro p e s m args below meth c A X hO hr hn
  have X : gK p s m args meth c A D cy ad cX2_init 1 RX2 := X
  refine g_aload_n X dX2_init_0 0 rfl rfl ?_
  refine g_objInit X dX2_init_1 lkm_X2_1 (Nat.le_of_ble_eq_true rfl) (Nat.le_of_ble_eq_true rfl) ?_
  refine g_aload_n X dX2_init_4 0 rfl rfl ?_
  refine g_new X zX4 tyX4 dX2_init_5 ck_X4 ct_X4 lkn2_X2_7 zz_X4 (Nat.le_of_ble_eq_true rfl) (Nat.le_of_ble_eq_true rfl) (fun q1 => ?_)
  refine g_dup X dX2_init_8 rfl ?_
  refine g_gs (gs' := [[(h0, .inr (2, [.null, .int 0]))], [(q1, .inr (4, zX4))]]) rfl ?_
  refine g_cxIN (gc := [[(q1, .inr (4, zX4))]]) (gr := [[(h0, .inr (2, [.null, .int 0]))]]) (As := []) (rest := [.ref q1, .ref h0]) X hO dX2_init_9 (c_X4_init l D cy ad q1) mf_X4_init mi_X4_init rfl lkn_X2_9 ⟨(Nat.le_of_ble_eq_true rfl), (Nat.le_of_ble_eq_true rfl), (Nat.le_of_ble_eq_true rfl), (Nat.le_of_ble_eq_true rfl)⟩ [1, 0] (by decide : ([1, 0] : List Nat).Perm (List.range 2)) rfl (Nat.le_of_ble_eq_true rfl) rfl ?_
  rintro _ _ ⟨q1a, q1b, q1c, q1d, rfl, rfl⟩
  refine g_gs (gs' := [TB cy q1 q1a q1b q1c (0, 0, 0, 0, 0, 0, 0, (fun _ => (0 : Int32))), SU cy q1b q1d (fun _ => (0 : Int32)), SC q1c (0, 0, 0, 0, 0, 0), [(h0, .inr (2, [.null, .int 0]))]]) rfl ?_
  refine g_perm (gp_pick (out := [[(h0, .inr (2, [.null, .int 0]))], TB cy q1 q1a q1b q1c (0, 0, 0, 0, 0, 0, 0, (fun _ => (0 : Int32))), SU cy q1b q1d (fun _ => (0 : Int32)), SC q1c (0, 0, 0, 0, 0, 0)]) (by decide : ([3, 0, 1, 2] : List Nat).Perm (List.range 4)) rfl) ?_
  refine g_putF (gs' := [[(h0, .inr (2, [.ref q1, .int 0]))], TB cy q1 q1a q1b q1c (0, 0, 0, 0, 0, 0, 0, (fun _ => (0 : Int32))), SU cy q1b q1d (fun _ => (0 : Int32)), SC q1c (0, 0, 0, 0, 0, 0)]) X hn dX2_init_12 ck_X2 ct_X2 0 0 0 rfl rfl (Nat.le_of_ble_eq_true rfl) lkf_X2_10 rfl rfl rfl rfl (Nat.le_of_ble_eq_true rfl) rfl ?_
  refine g_regroup (gs' := [SL h0 q1 0, TB cy q1 q1a q1b q1c (0, 0, 0, 0, 0, 0, 0, (fun _ => (0 : Int32))), SU cy q1b q1d (fun _ => (0 : Int32)), SC q1c (0, 0, 0, 0, 0, 0)]) rfl ?_
  exact g_cxret (P := (fun rv gs => ∃ a : Nat, ∃ b : Nat, ∃ c : Nat, ∃ d : Nat, ∃ f : Nat, rv = none ∧ gs = [SL h0 a 0, TB cy a b c d (0, 0, 0, 0, 0, 0, 0, (fun _ => (0 : Int32))), SU cy c f (fun _ => (0 : Int32)), SC d (0, 0, 0, 0, 0, 0)])) (rv := none) ⟨q1, q1a, q1b, q1c, q1d, rfl, rfl⟩ (Nat.le_of_ble_eq_true rfl) (Nat.le_of_ble_eq_true rfl) (g_vret X hr dX2_init_15)
theorem HTs_congA {cy : Nat → ClassId} {ta ta' : TAd} {v : HRv} : ∀ {ks : List Nat}, (∀ k ∈ ks, ta k = ta' k) → HTs cy ta v ks = HTs cy ta' v ks := by
  intro ks
  induction ks with
  | nil => intro _; rfl
  | cons a l ih =>
    intro h
    have h1 := ih (fun k hk => h k (List.mem_cons_of_mem _ hk))
    unfold HTs at h1 ⊢
    rw [List.flatMap_cons, List.flatMap_cons, List.flatten_append, List.flatten_append, h1]
    have e : HT1 cy ta v a = HT1 cy ta' v a := by unfold HT1; rw [h a List.mem_cons_self]
    rw [e]
theorem HTs_snoc {cy : Nat → ClassId} {ta : TAd} {v : HRv} {k : Nat} : HTs cy ta v (List.range (k + 1)) = HTs cy ta v (List.range k) ++ (HT1 cy ta v k).flatten := by
  unfold HTs
  rw [List.range_succ, List.flatMap_append, List.flatten_append]
  simp only [List.flatMap_cons, List.flatMap_nil, List.append_nil]
abbrev HRp (cy : Nat → ClassId) (a1 : Nat) (f : Nat → Option Nat) (ta : TAd) (k : Nat) : va_W := (a1, .inl (cy 3, 14, .inr (.inr (.inr (.inr f))))) :: HTs cy ta hrZ (List.range k)
set_option maxRecDepth 100000 in
set_option maxHeartbeats 4000000 in
theorem b_X0_init {p : Program} {l : Launch} {e : Env} {s : State} {m : MethodId} {args : Array Value} {below : List Frame} {meth : Method} {c : Code} {A : Nat → Prop} {D : va_G} {cy : Nat → ClassId} {ad : (Nat → Nat) × (Nat → Nat)} {Q : State → Prop} (X : gK p s m args meth c A D cy ad cX0_init 2 RX0) (hO : AOT s) {h0 a : Nat}
    (K : ∀ (f : Nat → Option Nat) (ta : TAd), (∀ j, j < 14 → f j = some (ta j).1) → GW p l e rmX0_init s m args below meth c A D 2 71 2016 Q 43 [(0, .ref h0)] [] [HI h0 a (0, 0), HRp cy a f ta 14]) :
    ∀ (n k : Nat), n + k = 14 → ∀ (f : Nat → Option Nat) (ta : TAd), (∀ j, j < k → f j = some (ta j).1) → GW p l e rmX0_init s m args below meth c A D 2 (1 + 5 * k) (14 + 143 * k) Q 15 [(0, .ref h0), (1, .int (Int32.ofNat k))] [] [HI h0 a (0, 0), HRp cy a f ta k] := by
  intro n
  induction n with
  | zero =>
    intro k hk f ta hf
    have hk : k = 14 := by omega
    subst hk
    refine g_iload_n X dX0_init_15 1 rfl rfl ?_
    refine g_aload_n X dX0_init_16 0 rfl rfl ?_
    refine g_get X dX0_init_17 ck_X0 0 0 0 rfl rfl (Nat.le_of_ble_eq_true rfl) lkf_X0_11 rfl ?_
    refine g_alen3 (v := (14 : Int32)) X dX0_init_20 1 0 rfl rfl (by decide : Int32.ofNat 14 = (14 : Int32)) ?_
    refine g_icmp_ge X 43 dX0_init_21 (by decide) (fun _ => ?_) (fun z => absurd (by decide : (14 : Int32) ≤ Int32.ofNat 14) z)
    refine g_sub [0] (lv' := [(0, .ref h0)]) rfl ?_
    exact K f ta hf
  | succ n ih =>
    intro k hk f ta hf
    have hk14 : k < 14 := by omega
    have hi : (Int32.ofNat k).toNatClampNeg = k := by
      have : ∀ k : Fin 14, (Int32.ofNat k.val).toNatClampNeg = k.val := by decide
      exact this ⟨k, hk14⟩
    have hin : ¬ ((Int32.ofNat k) < 0 ∨ 14 ≤ (Int32.ofNat k).toNatClampNeg) := by
      have : ∀ k : Fin 14, ¬ ((Int32.ofNat k.val) < 0 ∨ 14 ≤ (Int32.ofNat k.val).toNatClampNeg) := by decide
      exact this ⟨k, hk14⟩
    have hlt : ¬ (14 : Int32) ≤ Int32.ofNat k := by
      have : ∀ k : Fin 14, ¬ (14 : Int32) ≤ Int32.ofNat k.val := by decide
      exact this ⟨k, hk14⟩
    have hnx : Int32.ofNat k + 1 = Int32.ofNat (k + 1) := by
      have : ∀ k : Fin 14, Int32.ofNat k.val + 1 = Int32.ofNat (k.val + 1) := by decide
      exact this ⟨k, hk14⟩
    refine g_iload_n X dX0_init_15 1 rfl rfl ?_
    refine g_aload_n X dX0_init_16 0 rfl rfl ?_
    refine g_get X dX0_init_17 ck_X0 0 0 0 rfl rfl (Nat.le_of_ble_eq_true rfl) lkf_X0_11 rfl ?_
    refine g_alen3 (v := (14 : Int32)) X dX0_init_20 1 0 rfl rfl (by decide : Int32.ofNat 14 = (14 : Int32)) ?_
    refine g_icmp_ge X 43 dX0_init_21 (by decide) (fun z => absurd z hlt) (fun _ => ?_)
    refine g_aload_n X dX0_init_24 0 rfl rfl ?_
    refine g_get X dX0_init_25 ck_X0 0 0 0 rfl rfl (Nat.le_of_ble_eq_true rfl) lkf_X0_11 rfl ?_
    refine g_iload_n X dX0_init_28 1 rfl rfl ?_
    refine g_new X zX4 tyX4 dX0_init_29 ck_X4 ct_X4 lkn2_X0_9 zz_X4 (by show 1 + 5 * k + 1 ≤ 71; omega) (by show 14 + 143 * k + 10 ≤ 2016; omega) (fun q => ?_)
    refine g_dup X dX0_init_32 rfl ?_
    refine g_gs (gs' := [HI h0 a (0, 0), HRp cy a f ta k, [(q, .inr (4, zX4))]]) rfl ?_
    refine g_cxIN (gc := [[(q, .inr (4, zX4))]]) (gr := [HI h0 a (0, 0), HRp cy a f ta k]) (As := []) (rest := [.ref q, .int (Int32.ofNat k), .ref a]) X hO dX0_init_33 (c_X4_init l D cy ad q) mf_X4_init mi_X4_init rfl lkn_X0_17 ⟨(Nat.le_of_ble_eq_true rfl), (Nat.le_of_ble_eq_true rfl), (by show 1 + 5 * k + 1 + 4 ≤ 71; omega), (by show 14 + 143 * k + 10 + 133 ≤ 2016; omega)⟩ [2, 0, 1] (by decide : ([2, 0, 1] : List Nat).Perm (List.range 3)) rfl (Nat.le_of_ble_eq_true rfl) rfl ?_
    rintro _ _ ⟨qa, qb, qc, qd, rfl, rfl⟩
    refine g_gs (gs' := [TB cy q qa qb qc (0, 0, 0, 0, 0, 0, 0, (fun _ => (0 : Int32))), SU cy qb qd (fun _ => (0 : Int32)), SC qc (0, 0, 0, 0, 0, 0), HI h0 a (0, 0), HRp cy a f ta k]) rfl ?_
    refine g_aastore (gs' := [TB cy q qa qb qc (0, 0, 0, 0, 0, 0, 0, (fun _ => (0 : Int32))), SU cy qb qd (fun _ => (0 : Int32)), SC qc (0, 0, 0, 0, 0, 0), HI h0 a (0, 0), HRp cy a (va_up f (Int32.ofNat k).toNatClampNeg (some q)) ta k]) X dX0_init_36 4 0 rfl rfl 0 0 rfl rfl hin rfl ?_
    refine g_iinc (lv' := [(0, .ref h0), (1, .int (Int32.ofNat k + 1))]) (v := (1 : Int32)) X dX0_init_37 1 rfl (by decide) [1, 0] (Nat.le_of_ble_eq_true rfl) rfl ?_
    refine g_goto X 15 dX0_init_40 (by decide) ?_
    have hta : ∀ j ∈ List.range k, ta j = va_up ta k (q, qa, qb, qc, qd) j := fun j hj => (va_up_ne _ _ (by have := List.mem_range.mp hj; omega)).symm
    have he : va_up ta k (q, qa, qb, qc, qd) k = (q, qa, qb, qc, qd) := by unfold va_up; exact if_pos rfl
    have hg : HRp cy a (va_up f (Int32.ofNat k).toNatClampNeg (some q)) (va_up ta k (q, qa, qb, qc, qd)) (k + 1) = HRp cy a (va_up f (Int32.ofNat k).toNatClampNeg (some q)) ta k ++ [TB cy q qa qb qc (0, 0, 0, 0, 0, 0, 0, (fun _ => (0 : Int32))), SU cy qb qd (fun _ => (0 : Int32)), SC qc (0, 0, 0, 0, 0, 0)].flatten := by
      show (_ :: _) = (_ :: _) ++ _
      rw [HTs_snoc, ← HTs_congA hta]
      unfold HT1
      rw [he]
      rfl
    have hr := ih (k + 1) (by omega) (va_up f (Int32.ofNat k).toNatClampNeg (some q)) (va_up ta k (q, qa, qb, qc, qd)) (fun j hj => by
      rw [hi]
      by_cases h : j = k
      · subst h; rw [he]; unfold va_up; exact if_pos rfl
      · rw [va_up_ne _ _ h, va_up_ne _ _ h]; exact hf j (by omega))
    rw [hg, ← hnx] at hr
    refine g_fperm (gs' := [HI h0 a (0, 0), HRp cy a (va_up f (Int32.ofNat k).toNatClampNeg (some q)) ta k ++ [TB cy q qa qb qc (0, 0, 0, 0, 0, 0, 0, (fun _ => (0 : Int32))), SU cy qb qd (fun _ => (0 : Int32)), SC qc (0, 0, 0, 0, 0, 0)].flatten]) ?_ ?_
    · simp only [List.flatten_cons, List.flatten_nil, List.append_nil]
      generalize HRp cy a (va_up f (Int32.ofNat k).toNatClampNeg (some q)) ta k = z1
      generalize TB cy q qa qb qc (0, 0, 0, 0, 0, 0, 0, (fun _ => (0 : Int32))) = z2
      generalize SU cy qb qd (fun _ => (0 : Int32)) = z3
      generalize SC qc (0, 0, 0, 0, 0, 0) = z4
      generalize HI h0 a (0, 0) = z5
      rw [← List.append_assoc z2, ← List.append_assoc (z2 ++ z3), ← List.append_assoc z5]
      simpa only [List.append_assoc] using (List.perm_append_comm (l₁ := z2 ++ z3 ++ z4) (l₂ := z5 ++ z1))
    · refine (?_ : ∀ {x y : Nat}, x = 1 + 5 * (k + 1) → y = 14 + 143 * (k + 1) → _) (x := 1 + 5 * k + 1 + 4) (y := 14 + 143 * k + 10 + 133) (by omega) (by omega)
      intro x y hx hy
      subst hx
      subst hy
      exact hr
set_option maxRecDepth 100000 in
set_option maxHeartbeats 4000000 in
theorem c_X0_init (l : Launch) (D : va_G) (cy : Nat → ClassId) (ad : (Nat → Nat) × (Nat → Nat)) (h0 : Nat) : CX l yX0_init cX0_init 2 none rmX0_init D cy ad [.ref h0] [[(h0, .inr (0, zX0))]] (fun rv gs => ∃ a : Nat, ∃ ta : TAd, rv = none ∧ gs = [HI h0 a (0, 0), HR cy a ta hrZ]) := by
  refine cx_of (lv0 := [(0, .ref h0)]) (by decide) (Nat.le_of_ble_eq_true rfl) rfl ?_
  intro p e s m args below meth c A X hO hr hn
  have X : gK p s m args meth c A D cy ad cX0_init 2 RX0 := X
  refine g_aload_n X dX0_init_0 0 rfl rfl ?_
  refine g_objInit X dX0_init_1 lkm_X0_3 (Nat.le_of_ble_eq_true rfl) (Nat.le_of_ble_eq_true rfl) ?_
  refine g_aload_n X dX0_init_4 0 rfl rfl ?_
  refine g_bipush X (14 : Int32) dX0_init_5 (by decide) ?_
  refine g_newq X hO dX0_init_7 lkn2_X0_9.1 (by decide) (N := 14) (by decide) (by decide) (Nat.le_of_ble_eq_true rfl) (Nat.le_of_ble_eq_true rfl) (fun a => ?_)
  refine g_gs (gs' := [[(h0, .inr (0, zX0))], HRp cy a (fun _ => none) (fun _ => (0, 0, 0, 0, 0)) 0]) rfl ?_
  refine g_putF (gs' := [HI h0 a (0, 0), HRp cy a (fun _ => none) (fun _ => (0, 0, 0, 0, 0)) 0]) X hn dX0_init_10 ck_X0 ct_X0 0 0 0 rfl rfl (Nat.le_of_ble_eq_true rfl) lkf_X0_11 rfl rfl rfl rfl (Nat.le_of_ble_eq_true rfl) rfl ?_
  refine g_iconst X (0 : Int32) dX0_init_13 (by decide) ?_
  refine g_istore_n (lv' := [(0, .ref h0), (1, .int (0 : Int32))]) X dX0_init_14 [1, 0] rfl (Nat.le_of_ble_eq_true rfl) rfl ?_
  refine b_X0_init X hO (fun f ta hf => ?_) 14 0 rfl (fun _ => none) (fun _ => (0, 0, 0, 0, 0)) (fun j hj => absurd hj (Nat.not_lt_zero j))
  refine g_perm (gp_pick (out := [HRp cy a f ta 14, HI h0 a (0, 0)]) (by decide : ([1, 0] : List Nat).Perm (List.range 2)) rfl) ?_
  refine g_fcell (f' := fun k => some (ta k).1) hf ?_
  refine g_perm (gp_pick (out := [HI h0 a (0, 0), HR cy a ta hrZ]) (by decide : ([1, 0] : List Nat).Perm (List.range 2)) rfl) ?_
  exact g_cxret (P := (fun rv gs => ∃ a : Nat, ∃ ta : TAd, rv = none ∧ gs = [HI h0 a (0, 0), HR cy a ta hrZ])) (rv := none) ⟨a, ta, rfl, rfl⟩ (Nat.le_of_ble_eq_true rfl) (Nat.le_of_ble_eq_true rfl) (g_vret X hr dX0_init_43)
abbrev rmX7_setsOfOne : Room := ({ frames := 0, cells := 1, slots := 12, locals := 0 } : Room)
def f_X7_setsOfOne_B7 (z : Int32 × Fn) : Option ((Int32 × Fn) ⊕ ((Fn))) :=
  if (12 : Int32) ≤ z.1 then some (.inr ((z.2))) else if z.1 < 0 ∨ 12 ≤ z.1.toNatClampNeg then none else some (.inl ((z.1 + (1 : Int32)), (upd z.2 z.1.toNatClampNeg ((1 : Int32) <<< (z.1 &&& 31)))))
set_option maxRecDepth 100000 in
set_option maxHeartbeats 4000000 in
theorem b_X7_setsOfOne_B7 {p : Program} {l : Launch} {e : Env} {s : State} {m : MethodId} {args : Array Value} {below : List Frame} {meth : Method} {c : Code} {A : Nat → Prop} {D : va_G} {cy : Nat → ClassId} {ad : (Nat → Nat) × (Nat → Nat)} {Q : State → Prop} (X : gK p s m args meth c A D cy ad cX7_setsOfOne 2 RX7) (hr : meth.sig.returnType = (some (.array .int))) {g0 : Nat} (z : Int32 × Fn) {q : (Int32 × Fn) ⊕ ((Fn))} (hf : f_X7_setsOfOne_B7 z = some q) (K1 : ∀ s' : Int32 × Fn, q = .inl s' → GW p l e rmX7_setsOfOne s m args below meth c A D 2 1 12 Q 7 [(0, .ref g0), (1, .int s'.1)] [] [AI cy 12 g0 s'.2]) (K2 : ∀ e' : Fn, q = .inr (e') → GW p l e rmX7_setsOfOne s m args below meth c A D 2 1 12 Q 25 [(0, .ref g0)] [] [AI cy 12 g0 e']) : GW p l e rmX7_setsOfOne s m args below meth c A D 2 1 12 Q 7 [(0, .ref g0), (1, .int z.1)] [] [AI cy 12 g0 z.2] := by
  unfold f_X7_setsOfOne_B7 at hf
  refine g_iload_n X dX7_setsOfOne_7 1 rfl rfl ?_
  refine g_aload_n X dX7_setsOfOne_8 0 rfl rfl ?_
  refine g_alen0 (v := (12 : Int32)) X dX7_setsOfOne_9 0 0 rfl rfl (by decide : Int32.ofNat 12 = (12 : Int32)) ?_
  refine g_icmp_ge X 25 dX7_setsOfOne_10 (by decide) (fun c2 => ?_) (fun c2 => ?_)
  · have hf := opos c2 hf
    refine g_sub [0] (lv' := [(0, .ref g0)]) rfl ?_
    exact K2 (z.2) (Option.some.inj hf).symm
  · have hf := oneg c2 hf
    refine g_aload_n X dX7_setsOfOne_13 0 rfl rfl ?_
    refine g_iload_n X dX7_setsOfOne_14 1 rfl rfl ?_
    refine g_iconst X (1 : Int32) dX7_setsOfOne_15 (by decide) ?_
    refine g_iload_n X dX7_setsOfOne_16 1 rfl rfl ?_
    refine g_ishl X dX7_setsOfOne_17 ?_
    obtain ⟨n1, hf⟩ := oguard hf
    refine g_iastore (gs' := [AI cy 12 g0 (upd z.2 z.1.toNatClampNeg ((1 : Int32) <<< (z.1 &&& 31)))]) X dX7_setsOfOne_18 0 0 rfl rfl n1 rfl ?_
    refine g_iinc (lv' := [(0, .ref g0), (1, .int (z.1 + (1 : Int32)))]) (v := (1 : Int32)) X dX7_setsOfOne_19 1 rfl (by decide) [1, 0] (Nat.le_of_ble_eq_true rfl) rfl ?_
    refine g_goto X 7 dX7_setsOfOne_22 (by decide) ?_
    exact K1 ((z.1 + (1 : Int32)), (upd z.2 z.1.toNatClampNeg ((1 : Int32) <<< (z.1 &&& 31)))) (Option.some.inj hf).symm
set_option maxRecDepth 100000 in
set_option maxHeartbeats 4000000 in
theorem w_X7_setsOfOne_B7 {p : Program} {l : Launch} {e : Env} {s : State} {m : MethodId} {args : Array Value} {below : List Frame} {meth : Method} {c : Code} {A : Nat → Prop} {D : va_G} {cy : Nat → ClassId} {ad : (Nat → Nat) × (Nat → Nat)} {Q : State → Prop} (X : gK p s m args meth c A D cy ad cX7_setsOfOne 2 RX7) (hr : meth.sig.returnType = (some (.array .int))) {g0 : Nat} {n : Nat} {z : Int32 × Fn} {q : (Fn)} (hf : itl (f_X7_setsOfOne_B7) n z = some q) (K2 : GW p l e rmX7_setsOfOne s m args below meth c A D 2 1 12 Q 25 [(0, .ref g0)] [] [AI cy 12 g0 q]) : GW p l e rmX7_setsOfOne s m args below meth c A D 2 1 12 Q 7 [(0, .ref g0), (1, .int z.1)] [] [AI cy 12 g0 z.2] :=
  itl_ind (f := f_X7_setsOfOne_B7) (I := fun z => GW p l e rmX7_setsOfOne s m args below meth c A D 2 1 12 Q 7 [(0, .ref g0), (1, .int z.1)] [] [AI cy 12 g0 z.2]) (J := (fun q => GW p l e rmX7_setsOfOne s m args below meth c A D 2 1 12 Q 25 [(0, .ref g0)] [] [AI cy 12 g0 q])) (fun z x h k1 k2 => b_X7_setsOfOne_B7 X hr z h (fun s' hs => k1 s' hs) (fun e' he => k2 e' he)) n z q hf K2
def f_X7_setsOfOne (v0 : Fn) : Option Fn :=
  (itl (f_X7_setsOfOne_B7) FU ((0 : Int32), v0)).bind (fun q3 => some q3)
set_option maxRecDepth 100000 in
set_option maxHeartbeats 4000000 in
theorem c_X7_setsOfOne (l : Launch) (D : va_G) (cy : Nat → ClassId) (ad : (Nat → Nat) × (Nat → Nat)) {q : Fn} (hf : f_X7_setsOfOne (fun _ => (0 : Int32)) = some q) : CX l yX7_setsOfOne cX7_setsOfOne 2 (some (.array .int)) rmX7_setsOfOne D cy ad [] [] (fun rv gs => ∃ a : Nat, rv = some (.ref a) ∧ gs = [AI cy 12 a q]) := by
  refine cx_of (lv0 := []) (by decide) (Nat.le_of_ble_eq_true rfl) rfl ?_
  intro p e s m args below meth c A X hO hr hn
  have X : gK p s m args meth c A D cy ad cX7_setsOfOne 2 RX7 := X
  obtain ⟨v0, hv0⟩ : ∃ v : Fn, v = (fun _ => (0 : Int32)) := ⟨_, rfl⟩
  rw [← hv0] at hf
  unfold f_X7_setsOfOne at hf
  refine g_bipush X (12 : Int32) dX7_setsOfOne_0 (by decide) ?_
  refine g_newa0 X v0 hv0 dX7_setsOfOne_2 (by decide) (N := 12) (by decide) (by decide) (Nat.le_of_ble_eq_true rfl) (Nat.le_of_ble_eq_true rfl) (fun g0 => ?_)
  refine g_astore_n (lv' := [(0, .ref g0)]) X dX7_setsOfOne_4 [0] rfl (Nat.le_of_ble_eq_true rfl) rfl ?_
  refine g_iconst X (0 : Int32) dX7_setsOfOne_5 (by decide) ?_
  refine g_istore_n (lv' := [(0, .ref g0), (1, .int (0 : Int32))]) X dX7_setsOfOne_6 [1, 0] rfl (Nat.le_of_ble_eq_true rfl) rfl ?_
  obtain ⟨q3, hq3, hf⟩ := obind hf
  refine w_X7_setsOfOne_B7 X hr hq3 ?_
  refine g_aload_n X dX7_setsOfOne_25 0 rfl rfl ?_
  have hf := Option.some.inj hf
  subst hf
  exact g_cxret (rv := some (.ref g0)) ⟨g0, rfl, rfl⟩ (Nat.le_of_ble_eq_true rfl) (Nat.le_of_ble_eq_true rfl) (g_aret X hr (Or.inr ⟨_, rfl⟩) (Or.inr ⟨_, rfl⟩) dX7_setsOfOne_26)
abbrev rmX7_setsOfTwo : Room := ({ frames := 0, cells := 1, slots := 66, locals := 0 } : Room)
def f_X7_setsOfTwo_B17 (x2 : Int32) (z : Int32 × Int32 × Fn) : Option ((Int32 × Int32 × Fn) ⊕ ((Int32 × Fn))) :=
  if x2 ≤ z.2.1 then some (.inr ((z.1, z.2.2))) else if (66 : Int32) ≤ z.1 then some (.inr ((z.1, z.2.2))) else if z.1 < 0 ∨ 66 ≤ z.1.toNatClampNeg then none else some (.inl ((z.1 + (1 : Int32)), (z.2.1 + (1 : Int32)), (upd z.2.2 z.1.toNatClampNeg (((1 : Int32) <<< (x2 &&& 31)) ||| ((1 : Int32) <<< (z.2.1 &&& 31))))))
set_option maxRecDepth 100000 in
set_option maxHeartbeats 4000000 in
theorem b_X7_setsOfTwo_B17 {p : Program} {l : Launch} {e : Env} {s : State} {m : MethodId} {args : Array Value} {below : List Frame} {meth : Method} {c : Code} {A : Nat → Prop} {D : va_G} {cy : Nat → ClassId} {ad : (Nat → Nat) × (Nat → Nat)} {Q : State → Prop} (X : gK p s m args meth c A D cy ad cX7_setsOfTwo 4 RX7) (hr : meth.sig.returnType = (some (.array .int))) {g0 : Nat} (x2 : Int32) (z : Int32 × Int32 × Fn) {q : (Int32 × Int32 × Fn) ⊕ ((Int32 × Fn))} (hf : f_X7_setsOfTwo_B17 x2 z = some q) (K1 : ∀ s' : Int32 × Int32 × Fn, q = .inl s' → GW p l e rmX7_setsOfTwo s m args below meth c A D 4 1 66 Q 17 [(0, .ref g0), (1, .int s'.1), (2, .int x2), (3, .int s'.2.1)] [] [AI cy 66 g0 s'.2.2]) (K2 : ∀ e' : Int32 × Fn, q = .inr (e') → GW p l e rmX7_setsOfTwo s m args below meth c A D 4 1 66 Q 47 [(0, .ref g0), (1, .int e'.1), (2, .int x2)] [] [AI cy 66 g0 e'.2]) : GW p l e rmX7_setsOfTwo s m args below meth c A D 4 1 66 Q 17 [(0, .ref g0), (1, .int z.1), (2, .int x2), (3, .int z.2.1)] [] [AI cy 66 g0 z.2.2] := by
  unfold f_X7_setsOfTwo_B17 at hf
  refine g_iload_n X dX7_setsOfTwo_17 3 rfl rfl ?_
  refine g_iload_n X dX7_setsOfTwo_18 2 rfl rfl ?_
  refine g_icmp_ge X 47 dX7_setsOfTwo_19 (by decide) (fun c6 => ?_) (fun c6 => ?_)
  · have hf := opos c6 hf
    refine g_sub [0, 1, 2] (lv' := [(0, .ref g0), (1, .int z.1), (2, .int x2)]) rfl ?_
    exact K2 (z.1, z.2.2) (Option.some.inj hf).symm
  · have hf := oneg c6 hf
    refine g_iload_n X dX7_setsOfTwo_22 1 rfl rfl ?_
    refine g_aload_n X dX7_setsOfTwo_23 0 rfl rfl ?_
    refine g_alen0 (v := (66 : Int32)) X dX7_setsOfTwo_24 0 0 rfl rfl (by decide : Int32.ofNat 66 = (66 : Int32)) ?_
    refine g_icmp_ge X 47 dX7_setsOfTwo_25 (by decide) (fun c5 => ?_) (fun c5 => ?_)
    · have hf := opos c5 hf
      refine g_sub [0, 1, 2] (lv' := [(0, .ref g0), (1, .int z.1), (2, .int x2)]) rfl ?_
      exact K2 (z.1, z.2.2) (Option.some.inj hf).symm
    · have hf := oneg c5 hf
      refine g_aload_n X dX7_setsOfTwo_28 0 rfl rfl ?_
      refine g_iload_n X dX7_setsOfTwo_29 1 rfl rfl ?_
      refine g_iconst X (1 : Int32) dX7_setsOfTwo_30 (by decide) ?_
      refine g_iload_n X dX7_setsOfTwo_31 2 rfl rfl ?_
      refine g_ishl X dX7_setsOfTwo_32 ?_
      refine g_iconst X (1 : Int32) dX7_setsOfTwo_33 (by decide) ?_
      refine g_iload_n X dX7_setsOfTwo_34 3 rfl rfl ?_
      refine g_ishl X dX7_setsOfTwo_35 ?_
      refine g_ior X dX7_setsOfTwo_36 ?_
      obtain ⟨n4, hf⟩ := oguard hf
      refine g_iastore (gs' := [AI cy 66 g0 (upd z.2.2 z.1.toNatClampNeg (((1 : Int32) <<< (x2 &&& 31)) ||| ((1 : Int32) <<< (z.2.1 &&& 31))))]) X dX7_setsOfTwo_37 0 0 rfl rfl n4 rfl ?_
      refine g_iinc (lv' := [(0, .ref g0), (1, .int (z.1 + (1 : Int32))), (2, .int x2), (3, .int z.2.1)]) (v := (1 : Int32)) X dX7_setsOfTwo_38 1 rfl (by decide) [1, 0, 2, 3] (Nat.le_of_ble_eq_true rfl) rfl ?_
      refine g_iinc (lv' := [(0, .ref g0), (1, .int (z.1 + (1 : Int32))), (2, .int x2), (3, .int (z.2.1 + (1 : Int32)))]) (v := (1 : Int32)) X dX7_setsOfTwo_41 3 rfl (by decide) [1, 2, 3, 0] (Nat.le_of_ble_eq_true rfl) rfl ?_
      refine g_goto X 17 dX7_setsOfTwo_44 (by decide) ?_
      exact K1 ((z.1 + (1 : Int32)), (z.2.1 + (1 : Int32)), (upd z.2.2 z.1.toNatClampNeg (((1 : Int32) <<< (x2 &&& 31)) ||| ((1 : Int32) <<< (z.2.1 &&& 31))))) (Option.some.inj hf).symm
set_option maxRecDepth 100000 in
set_option maxHeartbeats 4000000 in
theorem w_X7_setsOfTwo_B17 {p : Program} {l : Launch} {e : Env} {s : State} {m : MethodId} {args : Array Value} {below : List Frame} {meth : Method} {c : Code} {A : Nat → Prop} {D : va_G} {cy : Nat → ClassId} {ad : (Nat → Nat) × (Nat → Nat)} {Q : State → Prop} (X : gK p s m args meth c A D cy ad cX7_setsOfTwo 4 RX7) (hr : meth.sig.returnType = (some (.array .int))) {g0 : Nat} (x2 : Int32) {n : Nat} {z : Int32 × Int32 × Fn} {q : (Int32 × Fn)} (hf : itl (f_X7_setsOfTwo_B17 x2) n z = some q) (K2 : GW p l e rmX7_setsOfTwo s m args below meth c A D 4 1 66 Q 47 [(0, .ref g0), (1, .int q.1), (2, .int x2)] [] [AI cy 66 g0 q.2]) : GW p l e rmX7_setsOfTwo s m args below meth c A D 4 1 66 Q 17 [(0, .ref g0), (1, .int z.1), (2, .int x2), (3, .int z.2.1)] [] [AI cy 66 g0 z.2.2] :=
  itl_ind (f := f_X7_setsOfTwo_B17 x2) (I := fun z => GW p l e rmX7_setsOfTwo s m args below meth c A D 4 1 66 Q 17 [(0, .ref g0), (1, .int z.1), (2, .int x2), (3, .int z.2.1)] [] [AI cy 66 g0 z.2.2]) (J := (fun q => GW p l e rmX7_setsOfTwo s m args below meth c A D 4 1 66 Q 47 [(0, .ref g0), (1, .int q.1), (2, .int x2)] [] [AI cy 66 g0 q.2])) (fun z x h k1 k2 => b_X7_setsOfTwo_B17 X hr x2 z h (fun s' hs => k1 s' hs) (fun e' he => k2 e' he)) n z q hf K2
def f_X7_setsOfTwo_B9_b47 (v0 : Fn) (x1 : Int32) (x2 : Int32) : Option ((Int32 × Int32 × Fn) ⊕ ((Fn))) :=
  some (.inl (x1, (x2 + (1 : Int32)), v0))
set_option maxRecDepth 100000 in
set_option maxHeartbeats 4000000 in
theorem j_X7_setsOfTwo_B9_b47 {p : Program} {l : Launch} {e : Env} {s : State} {m : MethodId} {args : Array Value} {below : List Frame} {meth : Method} {c : Code} {A : Nat → Prop} {D : va_G} {cy : Nat → ClassId} {ad : (Nat → Nat) × (Nat → Nat)} {Q : State → Prop} (X : gK p s m args meth c A D cy ad cX7_setsOfTwo 4 RX7) (hr : meth.sig.returnType = (some (.array .int))) {g0 : Nat} (v0 : Fn) (x1 : Int32) (x2 : Int32) {q : (Int32 × Int32 × Fn) ⊕ ((Fn))} (hf : f_X7_setsOfTwo_B9_b47 v0 x1 x2 = some q) (K1 : ∀ s' : Int32 × Int32 × Fn, q = .inl s' → GW p l e rmX7_setsOfTwo s m args below meth c A D 4 1 66 Q 9 [(0, .ref g0), (1, .int s'.1), (2, .int s'.2.1)] [] [AI cy 66 g0 s'.2.2]) (K2 : ∀ e' : Fn, q = .inr (e') → GW p l e rmX7_setsOfTwo s m args below meth c A D 4 1 66 Q 53 [(0, .ref g0)] [] [AI cy 66 g0 e']) : GW p l e rmX7_setsOfTwo s m args below meth c A D 4 1 66 Q 47 [(0, .ref g0), (1, .int x1), (2, .int x2)] [] [AI cy 66 g0 v0] := by
  unfold f_X7_setsOfTwo_B9_b47 at hf
  refine g_iinc (lv' := [(0, .ref g0), (1, .int x1), (2, .int (x2 + (1 : Int32)))]) (v := (1 : Int32)) X dX7_setsOfTwo_47 2 rfl (by decide) [1, 2, 0] (Nat.le_of_ble_eq_true rfl) rfl ?_
  refine g_goto X 9 dX7_setsOfTwo_50 (by decide) ?_
  exact K1 (x1, (x2 + (1 : Int32)), v0) (Option.some.inj hf).symm
def f_X7_setsOfTwo_B9 (z : Int32 × Int32 × Fn) : Option ((Int32 × Int32 × Fn) ⊕ ((Fn))) :=
  if (12 : Int32) ≤ z.2.1 then some (.inr ((z.2.2))) else (itl (f_X7_setsOfTwo_B17 z.2.1) FU (z.1, (0 : Int32), z.2.2)).bind (fun q7 => f_X7_setsOfTwo_B9_b47 q7.2 q7.1 z.2.1)
set_option maxRecDepth 100000 in
set_option maxHeartbeats 4000000 in
theorem b_X7_setsOfTwo_B9 {p : Program} {l : Launch} {e : Env} {s : State} {m : MethodId} {args : Array Value} {below : List Frame} {meth : Method} {c : Code} {A : Nat → Prop} {D : va_G} {cy : Nat → ClassId} {ad : (Nat → Nat) × (Nat → Nat)} {Q : State → Prop} (X : gK p s m args meth c A D cy ad cX7_setsOfTwo 4 RX7) (hr : meth.sig.returnType = (some (.array .int))) {g0 : Nat} (z : Int32 × Int32 × Fn) {q : (Int32 × Int32 × Fn) ⊕ ((Fn))} (hf : f_X7_setsOfTwo_B9 z = some q) (K1 : ∀ s' : Int32 × Int32 × Fn, q = .inl s' → GW p l e rmX7_setsOfTwo s m args below meth c A D 4 1 66 Q 9 [(0, .ref g0), (1, .int s'.1), (2, .int s'.2.1)] [] [AI cy 66 g0 s'.2.2]) (K2 : ∀ e' : Fn, q = .inr (e') → GW p l e rmX7_setsOfTwo s m args below meth c A D 4 1 66 Q 53 [(0, .ref g0)] [] [AI cy 66 g0 e']) : GW p l e rmX7_setsOfTwo s m args below meth c A D 4 1 66 Q 9 [(0, .ref g0), (1, .int z.1), (2, .int z.2.1)] [] [AI cy 66 g0 z.2.2] := by
  unfold f_X7_setsOfTwo_B9 at hf
  refine g_iload_n X dX7_setsOfTwo_9 2 rfl rfl ?_
  refine g_bipush X (12 : Int32) dX7_setsOfTwo_10 (by decide) ?_
  refine g_icmp_ge X 53 dX7_setsOfTwo_12 (by decide) (fun c8 => ?_) (fun c8 => ?_)
  · have hf := opos c8 hf
    refine g_sub [0] (lv' := [(0, .ref g0)]) rfl ?_
    exact K2 (z.2.2) (Option.some.inj hf).symm
  · have hf := oneg c8 hf
    refine g_iconst X (0 : Int32) dX7_setsOfTwo_15 (by decide) ?_
    refine g_istore_n (lv' := [(0, .ref g0), (1, .int z.1), (2, .int z.2.1), (3, .int (0 : Int32))]) X dX7_setsOfTwo_16 [1, 2, 3, 0] rfl (Nat.le_of_ble_eq_true rfl) rfl ?_
    obtain ⟨q7, hq7, hf⟩ := obind hf
    refine w_X7_setsOfTwo_B17 X hr z.2.1 hq7 ?_
    exact j_X7_setsOfTwo_B9_b47 X hr q7.2 q7.1 z.2.1 hf K1 K2
set_option maxRecDepth 100000 in
set_option maxHeartbeats 4000000 in
theorem w_X7_setsOfTwo_B9 {p : Program} {l : Launch} {e : Env} {s : State} {m : MethodId} {args : Array Value} {below : List Frame} {meth : Method} {c : Code} {A : Nat → Prop} {D : va_G} {cy : Nat → ClassId} {ad : (Nat → Nat) × (Nat → Nat)} {Q : State → Prop} (X : gK p s m args meth c A D cy ad cX7_setsOfTwo 4 RX7) (hr : meth.sig.returnType = (some (.array .int))) {g0 : Nat} {n : Nat} {z : Int32 × Int32 × Fn} {q : (Fn)} (hf : itl (f_X7_setsOfTwo_B9) n z = some q) (K2 : GW p l e rmX7_setsOfTwo s m args below meth c A D 4 1 66 Q 53 [(0, .ref g0)] [] [AI cy 66 g0 q]) : GW p l e rmX7_setsOfTwo s m args below meth c A D 4 1 66 Q 9 [(0, .ref g0), (1, .int z.1), (2, .int z.2.1)] [] [AI cy 66 g0 z.2.2] :=
  itl_ind (f := f_X7_setsOfTwo_B9) (I := fun z => GW p l e rmX7_setsOfTwo s m args below meth c A D 4 1 66 Q 9 [(0, .ref g0), (1, .int z.1), (2, .int z.2.1)] [] [AI cy 66 g0 z.2.2]) (J := (fun q => GW p l e rmX7_setsOfTwo s m args below meth c A D 4 1 66 Q 53 [(0, .ref g0)] [] [AI cy 66 g0 q])) (fun z x h k1 k2 => b_X7_setsOfTwo_B9 X hr z h (fun s' hs => k1 s' hs) (fun e' he => k2 e' he)) n z q hf K2
def f_X7_setsOfTwo (v0 : Fn) : Option Fn :=
  (itl (f_X7_setsOfTwo_B9) FU ((0 : Int32), (1 : Int32), v0)).bind (fun q9 => some q9)
set_option maxRecDepth 100000 in
set_option maxHeartbeats 4000000 in
theorem c_X7_setsOfTwo (l : Launch) (D : va_G) (cy : Nat → ClassId) (ad : (Nat → Nat) × (Nat → Nat)) {q : Fn} (hf : f_X7_setsOfTwo (fun _ => (0 : Int32)) = some q) : CX l yX7_setsOfTwo cX7_setsOfTwo 4 (some (.array .int)) rmX7_setsOfTwo D cy ad [] [] (fun rv gs => ∃ a : Nat, rv = some (.ref a) ∧ gs = [AI cy 66 a q]) := by
  refine cx_of (lv0 := []) (by decide) (Nat.le_of_ble_eq_true rfl) rfl ?_
  intro p e s m args below meth c A X hO hr hn
  have X : gK p s m args meth c A D cy ad cX7_setsOfTwo 4 RX7 := X
  obtain ⟨v0, hv0⟩ : ∃ v : Fn, v = (fun _ => (0 : Int32)) := ⟨_, rfl⟩
  rw [← hv0] at hf
  unfold f_X7_setsOfTwo at hf
  refine g_bipush X (66 : Int32) dX7_setsOfTwo_0 (by decide) ?_
  refine g_newa0 X v0 hv0 dX7_setsOfTwo_2 (by decide) (N := 66) (by decide) (by decide) (Nat.le_of_ble_eq_true rfl) (Nat.le_of_ble_eq_true rfl) (fun g0 => ?_)
  refine g_astore_n (lv' := [(0, .ref g0)]) X dX7_setsOfTwo_4 [0] rfl (Nat.le_of_ble_eq_true rfl) rfl ?_
  refine g_iconst X (0 : Int32) dX7_setsOfTwo_5 (by decide) ?_
  refine g_istore_n (lv' := [(0, .ref g0), (1, .int (0 : Int32))]) X dX7_setsOfTwo_6 [1, 0] rfl (Nat.le_of_ble_eq_true rfl) rfl ?_
  refine g_iconst X (1 : Int32) dX7_setsOfTwo_7 (by decide) ?_
  refine g_istore_n (lv' := [(0, .ref g0), (1, .int (0 : Int32)), (2, .int (1 : Int32))]) X dX7_setsOfTwo_8 [1, 2, 0] rfl (Nat.le_of_ble_eq_true rfl) rfl ?_
  obtain ⟨q9, hq9, hf⟩ := obind hf
  refine w_X7_setsOfTwo_B9 X hr hq9 ?_
  refine g_aload_n X dX7_setsOfTwo_53 0 rfl rfl ?_
  have hf := Option.some.inj hf
  subst hf
  exact g_cxret (rv := some (.ref g0)) ⟨g0, rfl, rfl⟩ (Nat.le_of_ble_eq_true rfl) (Nat.le_of_ble_eq_true rfl) (g_aret X hr (Or.inr ⟨_, rfl⟩) (Or.inr ⟨_, rfl⟩) dX7_setsOfTwo_54)
abbrev rmX7_init : Room := ({ frames := 5, cells := 99, slots := 2805, locals := 140 } : Room)
abbrev gX7z (cy : Nat → ClassId) (h0 h1 h2 h3 h4 h5 h6 h7 h8 h9 t1 a1 a2 a3 a4 b1 b2 b3 b4 r1 d1 d2 d3 d4 d5 e1 e2 e3 e4 e5 : Nat) (ta : TAd) (q : TBv × Fn) (w12 w66 : Fn) : List va_W := [FP h0 h1 h2 h3 h4 h5 h6 h7 h8 h9, TX cy h1 t1 (0, 0, 0, 0, 0, 0, 0, 0, (fun _ => (0 : Int32))), TB cy h2 a1 a2 a3 q.1, SU cy a2 a4 q.2, SC a3 (0, 0, 0, 0, 0, 0), TB cy h3 b1 b2 b3 (0, 0, 0, 0, 0, 0, 0, (fun _ => (0 : Int32))), SU cy b2 b4 (fun _ => (0 : Int32)), SC b3 (0, 0, 0, 0, 0, 0), HI h4 r1 (0, 0), HR cy r1 ta hrZ, SL h5 d1 0, TB cy d1 d2 d3 d4 (0, 0, 0, 0, 0, 0, 0, (fun _ => (0 : Int32))), SU cy d3 d5 (fun _ => (0 : Int32)), SL h6 e1 0, TB cy e1 e2 e3 e4 (0, 0, 0, 0, 0, 0, 0, (fun _ => (0 : Int32))), SU cy e3 e5 (fun _ => (0 : Int32)), TA h7 (0, 0, 0), AI cy 12 h8 w12, AI cy 66 h9 w66, SC d4 (0, 0, 0, 0, 0, 0), SC e4 (0, 0, 0, 0, 0, 0)]
set_option maxRecDepth 100000 in
set_option maxHeartbeats 4000000 in
theorem c_X7_init (l : Launch) (D : va_G) (cy : Nat → ClassId) (ad : (Nat → Nat) × (Nat → Nat)) (h0 : Nat) {q : TBv × Fn} {w12 w66 : Fn} (hf12 : f_X7_setsOfOne (fun _ => (0 : Int32)) = some w12) (hf66 : f_X7_setsOfTwo (fun _ => (0 : Int32)) = some w66) (hf : f_X4_reset (0, 0, 0, 0, 0, 0, 0, (fun _ => (0 : Int32))) (fun _ => (0 : Int32)) = some q) : CX l yX7_init cX7_init 1 none rmX7_init D cy ad [.ref h0] [[(h0, .inr (7, zX7))]] (fun rv gs => ∃ h1 : Nat, ∃ h2 : Nat, ∃ h3 : Nat, ∃ h4 : Nat, ∃ h5 : Nat, ∃ h6 : Nat, ∃ h7 : Nat, ∃ h8 : Nat, ∃ h9 : Nat, ∃ t1 : Nat, ∃ a1 : Nat, ∃ a2 : Nat, ∃ a3 : Nat, ∃ a4 : Nat, ∃ b1 : Nat, ∃ b2 : Nat, ∃ b3 : Nat, ∃ b4 : Nat, ∃ r1 : Nat, ∃ d1 : Nat, ∃ d2 : Nat, ∃ d3 : Nat, ∃ d4 : Nat, ∃ d5 : Nat, ∃ e1 : Nat, ∃ e2 : Nat, ∃ e3 : Nat, ∃ e4 : Nat, ∃ e5 : Nat, ∃ ta : TAd, rv = none ∧ gs = gX7z cy h0 h1 h2 h3 h4 h5 h6 h7 h8 h9 t1 a1 a2 a3 a4 b1 b2 b3 b4 r1 d1 d2 d3 d4 d5 e1 e2 e3 e4 e5 ta q w12 w66) := by
  refine cx_of (lv0 := [(0, .ref h0)]) (by decide) (Nat.le_of_ble_eq_true rfl) rfl ?_
  intro p e s m args below meth c A X hO hr hn
  have X : gK p s m args meth c A D cy ad cX7_init 1 RX7 := X
  refine g_aload_n X dX7_init_0 0 rfl rfl ?_
  refine g_objInit X dX7_init_1 lkm_X7_1 (Nat.le_of_ble_eq_true rfl) (Nat.le_of_ble_eq_true rfl) ?_
  refine g_aload_n X dX7_init_4 0 rfl rfl ?_
  refine g_new X zX6 tyX6 dX7_init_5 ck_X6 ct_X6 lkn2_X7_7 zz_X6 (Nat.le_of_ble_eq_true rfl) (Nat.le_of_ble_eq_true rfl) (fun q1 => ?_)
  refine g_dup X dX7_init_8 rfl ?_
  refine g_gs (gs' := [[(h0, .inr (7, [.null, .null, .null, .null, .null, .null, .null, .null, .null]))], [(q1, .inr (6, zX6))]]) rfl ?_
  refine g_cxIN (gc := [[(q1, .inr (6, zX6))]]) (gr := [[(h0, .inr (7, [.null, .null, .null, .null, .null, .null, .null, .null, .null]))]]) (As := []) (rest := [.ref q1, .ref h0]) X hO dX7_init_9 (c_X6_init l D cy ad q1) mf_X6_init mi_X6_init rfl lkn_X7_9 ⟨(Nat.le_of_ble_eq_true rfl), (Nat.le_of_ble_eq_true rfl), (Nat.le_of_ble_eq_true rfl), (Nat.le_of_ble_eq_true rfl)⟩ [1, 0] (by decide : ([1, 0] : List Nat).Perm (List.range 2)) rfl (Nat.le_of_ble_eq_true rfl) rfl ?_
  rintro _ _ ⟨q1a, rfl, rfl⟩
  refine g_gs (gs' := [TX cy q1 q1a (0, 0, 0, 0, 0, 0, 0, 0, (fun _ => (0 : Int32))), [(h0, .inr (7, [.null, .null, .null, .null, .null, .null, .null, .null, .null]))]]) rfl ?_
  refine g_perm (gp_pick (out := [[(h0, .inr (7, [.null, .null, .null, .null, .null, .null, .null, .null, .null]))], TX cy q1 q1a (0, 0, 0, 0, 0, 0, 0, 0, (fun _ => (0 : Int32)))]) (by decide : ([1, 0] : List Nat).Perm (List.range 2)) rfl) ?_
  refine g_putF (gs' := [[(h0, .inr (7, [.ref q1, .null, .null, .null, .null, .null, .null, .null, .null]))], TX cy q1 q1a (0, 0, 0, 0, 0, 0, 0, 0, (fun _ => (0 : Int32)))]) X hn dX7_init_12 ck_X7 ct_X7 0 0 0 rfl rfl (Nat.le_of_ble_eq_true rfl) lkf_X7_10 rfl rfl rfl rfl (Nat.le_of_ble_eq_true rfl) rfl ?_
  refine g_aload_n X dX7_init_15 0 rfl rfl ?_
  refine g_new X zX4 tyX4 dX7_init_16 ck_X4 ct_X4 lkn2_X7_16 zz_X4 (Nat.le_of_ble_eq_true rfl) (Nat.le_of_ble_eq_true rfl) (fun q2 => ?_)
  refine g_dup X dX7_init_19 rfl ?_
  refine g_gs (gs' := [[(h0, .inr (7, [.ref q1, .null, .null, .null, .null, .null, .null, .null, .null]))], TX cy q1 q1a (0, 0, 0, 0, 0, 0, 0, 0, (fun _ => (0 : Int32))), [(q2, .inr (4, zX4))]]) rfl ?_
  refine g_cxIN (gc := [[(q2, .inr (4, zX4))]]) (gr := [[(h0, .inr (7, [.ref q1, .null, .null, .null, .null, .null, .null, .null, .null]))], TX cy q1 q1a (0, 0, 0, 0, 0, 0, 0, 0, (fun _ => (0 : Int32)))]) (As := []) (rest := [.ref q2, .ref h0]) X hO dX7_init_20 (c_X4_init l D cy ad q2) mf_X4_init mi_X4_init rfl lkn_X7_18 ⟨(Nat.le_of_ble_eq_true rfl), (Nat.le_of_ble_eq_true rfl), (Nat.le_of_ble_eq_true rfl), (Nat.le_of_ble_eq_true rfl)⟩ [2, 0, 1] (by decide : ([2, 0, 1] : List Nat).Perm (List.range 3)) rfl (Nat.le_of_ble_eq_true rfl) rfl ?_
  rintro _ _ ⟨q2a, q2b, q2c, q2d, rfl, rfl⟩
  refine g_gs (gs' := [TB cy q2 q2a q2b q2c (0, 0, 0, 0, 0, 0, 0, (fun _ => (0 : Int32))), SU cy q2b q2d (fun _ => (0 : Int32)), SC q2c (0, 0, 0, 0, 0, 0), [(h0, .inr (7, [.ref q1, .null, .null, .null, .null, .null, .null, .null, .null]))], TX cy q1 q1a (0, 0, 0, 0, 0, 0, 0, 0, (fun _ => (0 : Int32)))]) rfl ?_
  refine g_perm (gp_pick (out := [[(h0, .inr (7, [.ref q1, .null, .null, .null, .null, .null, .null, .null, .null]))], TX cy q1 q1a (0, 0, 0, 0, 0, 0, 0, 0, (fun _ => (0 : Int32))), TB cy q2 q2a q2b q2c (0, 0, 0, 0, 0, 0, 0, (fun _ => (0 : Int32))), SU cy q2b q2d (fun _ => (0 : Int32)), SC q2c (0, 0, 0, 0, 0, 0)]) (by decide : ([3, 4, 0, 1, 2] : List Nat).Perm (List.range 5)) rfl) ?_
  refine g_putF (gs' := [[(h0, .inr (7, [.ref q1, .ref q2, .null, .null, .null, .null, .null, .null, .null]))], TX cy q1 q1a (0, 0, 0, 0, 0, 0, 0, 0, (fun _ => (0 : Int32))), TB cy q2 q2a q2b q2c (0, 0, 0, 0, 0, 0, 0, (fun _ => (0 : Int32))), SU cy q2b q2d (fun _ => (0 : Int32)), SC q2c (0, 0, 0, 0, 0, 0)]) X hn dX7_init_23 ck_X7 ct_X7 0 0 1 rfl rfl (Nat.le_of_ble_eq_true rfl) lkf_X7_19 rfl rfl rfl rfl (Nat.le_of_ble_eq_true rfl) rfl ?_
  refine g_aload_n X dX7_init_26 0 rfl rfl ?_
  refine g_new X zX4 tyX4 dX7_init_27 ck_X4 ct_X4 lkn2_X7_16 zz_X4 (Nat.le_of_ble_eq_true rfl) (Nat.le_of_ble_eq_true rfl) (fun q3 => ?_)
  refine g_dup X dX7_init_30 rfl ?_
  refine g_gs (gs' := [[(h0, .inr (7, [.ref q1, .ref q2, .null, .null, .null, .null, .null, .null, .null]))], TX cy q1 q1a (0, 0, 0, 0, 0, 0, 0, 0, (fun _ => (0 : Int32))), TB cy q2 q2a q2b q2c (0, 0, 0, 0, 0, 0, 0, (fun _ => (0 : Int32))), SU cy q2b q2d (fun _ => (0 : Int32)), SC q2c (0, 0, 0, 0, 0, 0), [(q3, .inr (4, zX4))]]) rfl ?_
  refine g_cxIN (gc := [[(q3, .inr (4, zX4))]]) (gr := [[(h0, .inr (7, [.ref q1, .ref q2, .null, .null, .null, .null, .null, .null, .null]))], TX cy q1 q1a (0, 0, 0, 0, 0, 0, 0, 0, (fun _ => (0 : Int32))), TB cy q2 q2a q2b q2c (0, 0, 0, 0, 0, 0, 0, (fun _ => (0 : Int32))), SU cy q2b q2d (fun _ => (0 : Int32)), SC q2c (0, 0, 0, 0, 0, 0)]) (As := []) (rest := [.ref q3, .ref h0]) X hO dX7_init_31 (c_X4_init l D cy ad q3) mf_X4_init mi_X4_init rfl lkn_X7_18 ⟨(Nat.le_of_ble_eq_true rfl), (Nat.le_of_ble_eq_true rfl), (Nat.le_of_ble_eq_true rfl), (Nat.le_of_ble_eq_true rfl)⟩ [5, 0, 1, 2, 3, 4] (by decide : ([5, 0, 1, 2, 3, 4] : List Nat).Perm (List.range 6)) rfl (Nat.le_of_ble_eq_true rfl) rfl ?_
  rintro _ _ ⟨q3a, q3b, q3c, q3d, rfl, rfl⟩
  refine g_gs (gs' := [TB cy q3 q3a q3b q3c (0, 0, 0, 0, 0, 0, 0, (fun _ => (0 : Int32))), SU cy q3b q3d (fun _ => (0 : Int32)), SC q3c (0, 0, 0, 0, 0, 0), [(h0, .inr (7, [.ref q1, .ref q2, .null, .null, .null, .null, .null, .null, .null]))], TX cy q1 q1a (0, 0, 0, 0, 0, 0, 0, 0, (fun _ => (0 : Int32))), TB cy q2 q2a q2b q2c (0, 0, 0, 0, 0, 0, 0, (fun _ => (0 : Int32))), SU cy q2b q2d (fun _ => (0 : Int32)), SC q2c (0, 0, 0, 0, 0, 0)]) rfl ?_
  refine g_perm (gp_pick (out := [[(h0, .inr (7, [.ref q1, .ref q2, .null, .null, .null, .null, .null, .null, .null]))], TX cy q1 q1a (0, 0, 0, 0, 0, 0, 0, 0, (fun _ => (0 : Int32))), TB cy q2 q2a q2b q2c (0, 0, 0, 0, 0, 0, 0, (fun _ => (0 : Int32))), SU cy q2b q2d (fun _ => (0 : Int32)), SC q2c (0, 0, 0, 0, 0, 0), TB cy q3 q3a q3b q3c (0, 0, 0, 0, 0, 0, 0, (fun _ => (0 : Int32))), SU cy q3b q3d (fun _ => (0 : Int32)), SC q3c (0, 0, 0, 0, 0, 0)]) (by decide : ([3, 4, 5, 6, 7, 0, 1, 2] : List Nat).Perm (List.range 8)) rfl) ?_
  refine g_putF (gs' := [[(h0, .inr (7, [.ref q1, .ref q2, .ref q3, .null, .null, .null, .null, .null, .null]))], TX cy q1 q1a (0, 0, 0, 0, 0, 0, 0, 0, (fun _ => (0 : Int32))), TB cy q2 q2a q2b q2c (0, 0, 0, 0, 0, 0, 0, (fun _ => (0 : Int32))), SU cy q2b q2d (fun _ => (0 : Int32)), SC q2c (0, 0, 0, 0, 0, 0), TB cy q3 q3a q3b q3c (0, 0, 0, 0, 0, 0, 0, (fun _ => (0 : Int32))), SU cy q3b q3d (fun _ => (0 : Int32)), SC q3c (0, 0, 0, 0, 0, 0)]) X hn dX7_init_34 ck_X7 ct_X7 0 0 2 rfl rfl (Nat.le_of_ble_eq_true rfl) lkf_X7_23 rfl rfl rfl rfl (Nat.le_of_ble_eq_true rfl) rfl ?_
  refine g_aload_n X dX7_init_37 0 rfl rfl ?_
  refine g_new X zX0 tyX0 dX7_init_38 ck_X0 ct_X0 lkn2_X7_26 zz_X0 (Nat.le_of_ble_eq_true rfl) (Nat.le_of_ble_eq_true rfl) (fun q4 => ?_)
  refine g_dup X dX7_init_41 rfl ?_
  refine g_gs (gs' := [[(h0, .inr (7, [.ref q1, .ref q2, .ref q3, .null, .null, .null, .null, .null, .null]))], TX cy q1 q1a (0, 0, 0, 0, 0, 0, 0, 0, (fun _ => (0 : Int32))), TB cy q2 q2a q2b q2c (0, 0, 0, 0, 0, 0, 0, (fun _ => (0 : Int32))), SU cy q2b q2d (fun _ => (0 : Int32)), SC q2c (0, 0, 0, 0, 0, 0), TB cy q3 q3a q3b q3c (0, 0, 0, 0, 0, 0, 0, (fun _ => (0 : Int32))), SU cy q3b q3d (fun _ => (0 : Int32)), SC q3c (0, 0, 0, 0, 0, 0), [(q4, .inr (0, zX0))]]) rfl ?_
  refine g_cxI (gc := [[(q4, .inr (0, zX0))]]) (gr := [[(h0, .inr (7, [.ref q1, .ref q2, .ref q3, .null, .null, .null, .null, .null, .null]))], TX cy q1 q1a (0, 0, 0, 0, 0, 0, 0, 0, (fun _ => (0 : Int32))), TB cy q2 q2a q2b q2c (0, 0, 0, 0, 0, 0, 0, (fun _ => (0 : Int32))), SU cy q2b q2d (fun _ => (0 : Int32)), SC q2c (0, 0, 0, 0, 0, 0), TB cy q3 q3a q3b q3c (0, 0, 0, 0, 0, 0, 0, (fun _ => (0 : Int32))), SU cy q3b q3d (fun _ => (0 : Int32)), SC q3c (0, 0, 0, 0, 0, 0)]) (As := []) (rest := [.ref q4, .ref h0]) X hO dX7_init_42 (c_X0_init l D cy ad q4) mf_X0_init mi_X0_init rfl lkm_X7_28 ⟨(Nat.le_of_ble_eq_true rfl), (Nat.le_of_ble_eq_true rfl), (Nat.le_of_ble_eq_true rfl), (Nat.le_of_ble_eq_true rfl)⟩ [8, 0, 1, 2, 3, 4, 5, 6, 7] (by decide : ([8, 0, 1, 2, 3, 4, 5, 6, 7] : List Nat).Perm (List.range 9)) rfl (Nat.le_of_ble_eq_true rfl) rfl ?_
  rintro _ _ ⟨q4a, ta, rfl, rfl⟩
  refine g_gs (gs' := [HI q4 q4a (0, 0), HR cy q4a ta hrZ, [(h0, .inr (7, [.ref q1, .ref q2, .ref q3, .null, .null, .null, .null, .null, .null]))], TX cy q1 q1a (0, 0, 0, 0, 0, 0, 0, 0, (fun _ => (0 : Int32))), TB cy q2 q2a q2b q2c (0, 0, 0, 0, 0, 0, 0, (fun _ => (0 : Int32))), SU cy q2b q2d (fun _ => (0 : Int32)), SC q2c (0, 0, 0, 0, 0, 0), TB cy q3 q3a q3b q3c (0, 0, 0, 0, 0, 0, 0, (fun _ => (0 : Int32))), SU cy q3b q3d (fun _ => (0 : Int32)), SC q3c (0, 0, 0, 0, 0, 0)]) rfl ?_
  refine g_perm (gp_pick (out := [[(h0, .inr (7, [.ref q1, .ref q2, .ref q3, .null, .null, .null, .null, .null, .null]))], TX cy q1 q1a (0, 0, 0, 0, 0, 0, 0, 0, (fun _ => (0 : Int32))), TB cy q2 q2a q2b q2c (0, 0, 0, 0, 0, 0, 0, (fun _ => (0 : Int32))), SU cy q2b q2d (fun _ => (0 : Int32)), SC q2c (0, 0, 0, 0, 0, 0), TB cy q3 q3a q3b q3c (0, 0, 0, 0, 0, 0, 0, (fun _ => (0 : Int32))), SU cy q3b q3d (fun _ => (0 : Int32)), SC q3c (0, 0, 0, 0, 0, 0), HI q4 q4a (0, 0), HR cy q4a ta hrZ]) (by decide : ([2, 3, 4, 5, 6, 7, 8, 9, 0, 1] : List Nat).Perm (List.range 10)) rfl) ?_
  refine g_putF (gs' := [[(h0, .inr (7, [.ref q1, .ref q2, .ref q3, .ref q4, .null, .null, .null, .null, .null]))], TX cy q1 q1a (0, 0, 0, 0, 0, 0, 0, 0, (fun _ => (0 : Int32))), TB cy q2 q2a q2b q2c (0, 0, 0, 0, 0, 0, 0, (fun _ => (0 : Int32))), SU cy q2b q2d (fun _ => (0 : Int32)), SC q2c (0, 0, 0, 0, 0, 0), TB cy q3 q3a q3b q3c (0, 0, 0, 0, 0, 0, 0, (fun _ => (0 : Int32))), SU cy q3b q3d (fun _ => (0 : Int32)), SC q3c (0, 0, 0, 0, 0, 0), HI q4 q4a (0, 0), HR cy q4a ta hrZ]) X hn dX7_init_45 ck_X7 ct_X7 0 0 3 rfl rfl (Nat.le_of_ble_eq_true rfl) lkf_X7_29 rfl rfl rfl rfl (Nat.le_of_ble_eq_true rfl) rfl ?_
  refine g_aload_n X dX7_init_48 0 rfl rfl ?_
  refine g_new X zX2 tyX2 dX7_init_49 ck_X2 ct_X2 lkn2_X7_33 zz_X2 (Nat.le_of_ble_eq_true rfl) (Nat.le_of_ble_eq_true rfl) (fun q5 => ?_)
  refine g_dup X dX7_init_52 rfl ?_
  refine g_gs (gs' := [[(h0, .inr (7, [.ref q1, .ref q2, .ref q3, .ref q4, .null, .null, .null, .null, .null]))], TX cy q1 q1a (0, 0, 0, 0, 0, 0, 0, 0, (fun _ => (0 : Int32))), TB cy q2 q2a q2b q2c (0, 0, 0, 0, 0, 0, 0, (fun _ => (0 : Int32))), SU cy q2b q2d (fun _ => (0 : Int32)), SC q2c (0, 0, 0, 0, 0, 0), TB cy q3 q3a q3b q3c (0, 0, 0, 0, 0, 0, 0, (fun _ => (0 : Int32))), SU cy q3b q3d (fun _ => (0 : Int32)), SC q3c (0, 0, 0, 0, 0, 0), HI q4 q4a (0, 0), HR cy q4a ta hrZ, [(q5, .inr (2, zX2))]]) rfl ?_
  refine g_cxIN (gc := [[(q5, .inr (2, zX2))]]) (gr := [[(h0, .inr (7, [.ref q1, .ref q2, .ref q3, .ref q4, .null, .null, .null, .null, .null]))], TX cy q1 q1a (0, 0, 0, 0, 0, 0, 0, 0, (fun _ => (0 : Int32))), TB cy q2 q2a q2b q2c (0, 0, 0, 0, 0, 0, 0, (fun _ => (0 : Int32))), SU cy q2b q2d (fun _ => (0 : Int32)), SC q2c (0, 0, 0, 0, 0, 0), TB cy q3 q3a q3b q3c (0, 0, 0, 0, 0, 0, 0, (fun _ => (0 : Int32))), SU cy q3b q3d (fun _ => (0 : Int32)), SC q3c (0, 0, 0, 0, 0, 0), HI q4 q4a (0, 0), HR cy q4a ta hrZ]) (As := []) (rest := [.ref q5, .ref h0]) X hO dX7_init_53 (c_X2_init l D cy ad q5) mf_X2_init mi_X2_init rfl lkn_X7_35 ⟨(Nat.le_of_ble_eq_true rfl), (Nat.le_of_ble_eq_true rfl), (Nat.le_of_ble_eq_true rfl), (Nat.le_of_ble_eq_true rfl)⟩ [10, 0, 1, 2, 3, 4, 5, 6, 7, 8, 9] (by decide : ([10, 0, 1, 2, 3, 4, 5, 6, 7, 8, 9] : List Nat).Perm (List.range 11)) rfl (Nat.le_of_ble_eq_true rfl) rfl ?_
  rintro _ _ ⟨q5a, q5b, q5c, q5d, q5f, rfl, rfl⟩
  refine g_gs (gs' := [SL q5 q5a 0, TB cy q5a q5b q5c q5d (0, 0, 0, 0, 0, 0, 0, (fun _ => (0 : Int32))), SU cy q5c q5f (fun _ => (0 : Int32)), SC q5d (0, 0, 0, 0, 0, 0), [(h0, .inr (7, [.ref q1, .ref q2, .ref q3, .ref q4, .null, .null, .null, .null, .null]))], TX cy q1 q1a (0, 0, 0, 0, 0, 0, 0, 0, (fun _ => (0 : Int32))), TB cy q2 q2a q2b q2c (0, 0, 0, 0, 0, 0, 0, (fun _ => (0 : Int32))), SU cy q2b q2d (fun _ => (0 : Int32)), SC q2c (0, 0, 0, 0, 0, 0), TB cy q3 q3a q3b q3c (0, 0, 0, 0, 0, 0, 0, (fun _ => (0 : Int32))), SU cy q3b q3d (fun _ => (0 : Int32)), SC q3c (0, 0, 0, 0, 0, 0), HI q4 q4a (0, 0), HR cy q4a ta hrZ]) rfl ?_
  refine g_perm (gp_pick (out := [[(h0, .inr (7, [.ref q1, .ref q2, .ref q3, .ref q4, .null, .null, .null, .null, .null]))], TX cy q1 q1a (0, 0, 0, 0, 0, 0, 0, 0, (fun _ => (0 : Int32))), TB cy q2 q2a q2b q2c (0, 0, 0, 0, 0, 0, 0, (fun _ => (0 : Int32))), SU cy q2b q2d (fun _ => (0 : Int32)), SC q2c (0, 0, 0, 0, 0, 0), TB cy q3 q3a q3b q3c (0, 0, 0, 0, 0, 0, 0, (fun _ => (0 : Int32))), SU cy q3b q3d (fun _ => (0 : Int32)), SC q3c (0, 0, 0, 0, 0, 0), HI q4 q4a (0, 0), HR cy q4a ta hrZ, SL q5 q5a 0, TB cy q5a q5b q5c q5d (0, 0, 0, 0, 0, 0, 0, (fun _ => (0 : Int32))), SU cy q5c q5f (fun _ => (0 : Int32)), SC q5d (0, 0, 0, 0, 0, 0)]) (by decide : ([4, 5, 6, 7, 8, 9, 10, 11, 12, 13, 0, 1, 2, 3] : List Nat).Perm (List.range 14)) rfl) ?_
  refine g_putF (gs' := [[(h0, .inr (7, [.ref q1, .ref q2, .ref q3, .ref q4, .ref q5, .null, .null, .null, .null]))], TX cy q1 q1a (0, 0, 0, 0, 0, 0, 0, 0, (fun _ => (0 : Int32))), TB cy q2 q2a q2b q2c (0, 0, 0, 0, 0, 0, 0, (fun _ => (0 : Int32))), SU cy q2b q2d (fun _ => (0 : Int32)), SC q2c (0, 0, 0, 0, 0, 0), TB cy q3 q3a q3b q3c (0, 0, 0, 0, 0, 0, 0, (fun _ => (0 : Int32))), SU cy q3b q3d (fun _ => (0 : Int32)), SC q3c (0, 0, 0, 0, 0, 0), HI q4 q4a (0, 0), HR cy q4a ta hrZ, SL q5 q5a 0, TB cy q5a q5b q5c q5d (0, 0, 0, 0, 0, 0, 0, (fun _ => (0 : Int32))), SU cy q5c q5f (fun _ => (0 : Int32)), SC q5d (0, 0, 0, 0, 0, 0)]) X hn dX7_init_56 ck_X7 ct_X7 0 0 4 rfl rfl (Nat.le_of_ble_eq_true rfl) lkf_X7_36 rfl rfl rfl rfl (Nat.le_of_ble_eq_true rfl) rfl ?_
  refine g_aload_n X dX7_init_59 0 rfl rfl ?_
  refine g_new X zX2 tyX2 dX7_init_60 ck_X2 ct_X2 lkn2_X7_33 zz_X2 (Nat.le_of_ble_eq_true rfl) (Nat.le_of_ble_eq_true rfl) (fun q6 => ?_)
  refine g_dup X dX7_init_63 rfl ?_
  refine g_gs (gs' := [[(h0, .inr (7, [.ref q1, .ref q2, .ref q3, .ref q4, .ref q5, .null, .null, .null, .null]))], TX cy q1 q1a (0, 0, 0, 0, 0, 0, 0, 0, (fun _ => (0 : Int32))), TB cy q2 q2a q2b q2c (0, 0, 0, 0, 0, 0, 0, (fun _ => (0 : Int32))), SU cy q2b q2d (fun _ => (0 : Int32)), SC q2c (0, 0, 0, 0, 0, 0), TB cy q3 q3a q3b q3c (0, 0, 0, 0, 0, 0, 0, (fun _ => (0 : Int32))), SU cy q3b q3d (fun _ => (0 : Int32)), SC q3c (0, 0, 0, 0, 0, 0), HI q4 q4a (0, 0), HR cy q4a ta hrZ, SL q5 q5a 0, TB cy q5a q5b q5c q5d (0, 0, 0, 0, 0, 0, 0, (fun _ => (0 : Int32))), SU cy q5c q5f (fun _ => (0 : Int32)), SC q5d (0, 0, 0, 0, 0, 0), [(q6, .inr (2, zX2))]]) rfl ?_
  refine g_cxIN (gc := [[(q6, .inr (2, zX2))]]) (gr := [[(h0, .inr (7, [.ref q1, .ref q2, .ref q3, .ref q4, .ref q5, .null, .null, .null, .null]))], TX cy q1 q1a (0, 0, 0, 0, 0, 0, 0, 0, (fun _ => (0 : Int32))), TB cy q2 q2a q2b q2c (0, 0, 0, 0, 0, 0, 0, (fun _ => (0 : Int32))), SU cy q2b q2d (fun _ => (0 : Int32)), SC q2c (0, 0, 0, 0, 0, 0), TB cy q3 q3a q3b q3c (0, 0, 0, 0, 0, 0, 0, (fun _ => (0 : Int32))), SU cy q3b q3d (fun _ => (0 : Int32)), SC q3c (0, 0, 0, 0, 0, 0), HI q4 q4a (0, 0), HR cy q4a ta hrZ, SL q5 q5a 0, TB cy q5a q5b q5c q5d (0, 0, 0, 0, 0, 0, 0, (fun _ => (0 : Int32))), SU cy q5c q5f (fun _ => (0 : Int32)), SC q5d (0, 0, 0, 0, 0, 0)]) (As := []) (rest := [.ref q6, .ref h0]) X hO dX7_init_64 (c_X2_init l D cy ad q6) mf_X2_init mi_X2_init rfl lkn_X7_35 ⟨(Nat.le_of_ble_eq_true rfl), (Nat.le_of_ble_eq_true rfl), (Nat.le_of_ble_eq_true rfl), (Nat.le_of_ble_eq_true rfl)⟩ [14, 0, 1, 2, 3, 4, 5, 6, 7, 8, 9, 10, 11, 12, 13] (by decide : ([14, 0, 1, 2, 3, 4, 5, 6, 7, 8, 9, 10, 11, 12, 13] : List Nat).Perm (List.range 15)) rfl (Nat.le_of_ble_eq_true rfl) rfl ?_
  rintro _ _ ⟨q6a, q6b, q6c, q6d, q6f, rfl, rfl⟩
  refine g_gs (gs' := [SL q6 q6a 0, TB cy q6a q6b q6c q6d (0, 0, 0, 0, 0, 0, 0, (fun _ => (0 : Int32))), SU cy q6c q6f (fun _ => (0 : Int32)), SC q6d (0, 0, 0, 0, 0, 0), [(h0, .inr (7, [.ref q1, .ref q2, .ref q3, .ref q4, .ref q5, .null, .null, .null, .null]))], TX cy q1 q1a (0, 0, 0, 0, 0, 0, 0, 0, (fun _ => (0 : Int32))), TB cy q2 q2a q2b q2c (0, 0, 0, 0, 0, 0, 0, (fun _ => (0 : Int32))), SU cy q2b q2d (fun _ => (0 : Int32)), SC q2c (0, 0, 0, 0, 0, 0), TB cy q3 q3a q3b q3c (0, 0, 0, 0, 0, 0, 0, (fun _ => (0 : Int32))), SU cy q3b q3d (fun _ => (0 : Int32)), SC q3c (0, 0, 0, 0, 0, 0), HI q4 q4a (0, 0), HR cy q4a ta hrZ, SL q5 q5a 0, TB cy q5a q5b q5c q5d (0, 0, 0, 0, 0, 0, 0, (fun _ => (0 : Int32))), SU cy q5c q5f (fun _ => (0 : Int32)), SC q5d (0, 0, 0, 0, 0, 0)]) rfl ?_
  refine g_perm (gp_pick (out := [[(h0, .inr (7, [.ref q1, .ref q2, .ref q3, .ref q4, .ref q5, .null, .null, .null, .null]))], TX cy q1 q1a (0, 0, 0, 0, 0, 0, 0, 0, (fun _ => (0 : Int32))), TB cy q2 q2a q2b q2c (0, 0, 0, 0, 0, 0, 0, (fun _ => (0 : Int32))), SU cy q2b q2d (fun _ => (0 : Int32)), SC q2c (0, 0, 0, 0, 0, 0), TB cy q3 q3a q3b q3c (0, 0, 0, 0, 0, 0, 0, (fun _ => (0 : Int32))), SU cy q3b q3d (fun _ => (0 : Int32)), SC q3c (0, 0, 0, 0, 0, 0), HI q4 q4a (0, 0), HR cy q4a ta hrZ, SL q5 q5a 0, TB cy q5a q5b q5c q5d (0, 0, 0, 0, 0, 0, 0, (fun _ => (0 : Int32))), SU cy q5c q5f (fun _ => (0 : Int32)), SC q5d (0, 0, 0, 0, 0, 0), SL q6 q6a 0, TB cy q6a q6b q6c q6d (0, 0, 0, 0, 0, 0, 0, (fun _ => (0 : Int32))), SU cy q6c q6f (fun _ => (0 : Int32)), SC q6d (0, 0, 0, 0, 0, 0)]) (by decide : ([4, 5, 6, 7, 8, 9, 10, 11, 12, 13, 14, 15, 16, 17, 0, 1, 2, 3] : List Nat).Perm (List.range 18)) rfl) ?_
  refine g_putF (gs' := [[(h0, .inr (7, [.ref q1, .ref q2, .ref q3, .ref q4, .ref q5, .ref q6, .null, .null, .null]))], TX cy q1 q1a (0, 0, 0, 0, 0, 0, 0, 0, (fun _ => (0 : Int32))), TB cy q2 q2a q2b q2c (0, 0, 0, 0, 0, 0, 0, (fun _ => (0 : Int32))), SU cy q2b q2d (fun _ => (0 : Int32)), SC q2c (0, 0, 0, 0, 0, 0), TB cy q3 q3a q3b q3c (0, 0, 0, 0, 0, 0, 0, (fun _ => (0 : Int32))), SU cy q3b q3d (fun _ => (0 : Int32)), SC q3c (0, 0, 0, 0, 0, 0), HI q4 q4a (0, 0), HR cy q4a ta hrZ, SL q5 q5a 0, TB cy q5a q5b q5c q5d (0, 0, 0, 0, 0, 0, 0, (fun _ => (0 : Int32))), SU cy q5c q5f (fun _ => (0 : Int32)), SC q5d (0, 0, 0, 0, 0, 0), SL q6 q6a 0, TB cy q6a q6b q6c q6d (0, 0, 0, 0, 0, 0, 0, (fun _ => (0 : Int32))), SU cy q6c q6f (fun _ => (0 : Int32)), SC q6d (0, 0, 0, 0, 0, 0)]) X hn dX7_init_67 ck_X7 ct_X7 0 0 5 rfl rfl (Nat.le_of_ble_eq_true rfl) lkf_X7_40 rfl rfl rfl rfl (Nat.le_of_ble_eq_true rfl) rfl ?_
  refine g_aload_n X dX7_init_70 0 rfl rfl ?_
  refine g_new X zX5 tyX5 dX7_init_71 ck_X5 ct_X5 lkn2_X7_43 zz_X5 (Nat.le_of_ble_eq_true rfl) (Nat.le_of_ble_eq_true rfl) (fun q7 => ?_)
  refine g_dup X dX7_init_74 rfl ?_
  refine g_gs (gs' := [[(h0, .inr (7, [.ref q1, .ref q2, .ref q3, .ref q4, .ref q5, .ref q6, .null, .null, .null]))], TX cy q1 q1a (0, 0, 0, 0, 0, 0, 0, 0, (fun _ => (0 : Int32))), TB cy q2 q2a q2b q2c (0, 0, 0, 0, 0, 0, 0, (fun _ => (0 : Int32))), SU cy q2b q2d (fun _ => (0 : Int32)), SC q2c (0, 0, 0, 0, 0, 0), TB cy q3 q3a q3b q3c (0, 0, 0, 0, 0, 0, 0, (fun _ => (0 : Int32))), SU cy q3b q3d (fun _ => (0 : Int32)), SC q3c (0, 0, 0, 0, 0, 0), HI q4 q4a (0, 0), HR cy q4a ta hrZ, SL q5 q5a 0, TB cy q5a q5b q5c q5d (0, 0, 0, 0, 0, 0, 0, (fun _ => (0 : Int32))), SU cy q5c q5f (fun _ => (0 : Int32)), SC q5d (0, 0, 0, 0, 0, 0), SL q6 q6a 0, TB cy q6a q6b q6c q6d (0, 0, 0, 0, 0, 0, 0, (fun _ => (0 : Int32))), SU cy q6c q6f (fun _ => (0 : Int32)), SC q6d (0, 0, 0, 0, 0, 0), [(q7, .inr (5, zX5))]]) rfl ?_
  refine g_cxIN (gc := [[(q7, .inr (5, zX5))]]) (gr := [[(h0, .inr (7, [.ref q1, .ref q2, .ref q3, .ref q4, .ref q5, .ref q6, .null, .null, .null]))], TX cy q1 q1a (0, 0, 0, 0, 0, 0, 0, 0, (fun _ => (0 : Int32))), TB cy q2 q2a q2b q2c (0, 0, 0, 0, 0, 0, 0, (fun _ => (0 : Int32))), SU cy q2b q2d (fun _ => (0 : Int32)), SC q2c (0, 0, 0, 0, 0, 0), TB cy q3 q3a q3b q3c (0, 0, 0, 0, 0, 0, 0, (fun _ => (0 : Int32))), SU cy q3b q3d (fun _ => (0 : Int32)), SC q3c (0, 0, 0, 0, 0, 0), HI q4 q4a (0, 0), HR cy q4a ta hrZ, SL q5 q5a 0, TB cy q5a q5b q5c q5d (0, 0, 0, 0, 0, 0, 0, (fun _ => (0 : Int32))), SU cy q5c q5f (fun _ => (0 : Int32)), SC q5d (0, 0, 0, 0, 0, 0), SL q6 q6a 0, TB cy q6a q6b q6c q6d (0, 0, 0, 0, 0, 0, 0, (fun _ => (0 : Int32))), SU cy q6c q6f (fun _ => (0 : Int32)), SC q6d (0, 0, 0, 0, 0, 0)]) (As := []) (rest := [.ref q7, .ref h0]) X hO dX7_init_75 (c_X5_init l D cy ad q7) mf_X5_init mi_X5_init rfl lkn_X7_45 ⟨(Nat.le_of_ble_eq_true rfl), (Nat.le_of_ble_eq_true rfl), (Nat.le_of_ble_eq_true rfl), (Nat.le_of_ble_eq_true rfl)⟩ [18, 0, 1, 2, 3, 4, 5, 6, 7, 8, 9, 10, 11, 12, 13, 14, 15, 16, 17] (by decide : ([18, 0, 1, 2, 3, 4, 5, 6, 7, 8, 9, 10, 11, 12, 13, 14, 15, 16, 17] : List Nat).Perm (List.range 19)) rfl (Nat.le_of_ble_eq_true rfl) rfl ?_
  rintro _ _ ⟨rfl, rfl⟩
  refine g_gs (gs' := [TA q7 (0, 0, 0), [(h0, .inr (7, [.ref q1, .ref q2, .ref q3, .ref q4, .ref q5, .ref q6, .null, .null, .null]))], TX cy q1 q1a (0, 0, 0, 0, 0, 0, 0, 0, (fun _ => (0 : Int32))), TB cy q2 q2a q2b q2c (0, 0, 0, 0, 0, 0, 0, (fun _ => (0 : Int32))), SU cy q2b q2d (fun _ => (0 : Int32)), SC q2c (0, 0, 0, 0, 0, 0), TB cy q3 q3a q3b q3c (0, 0, 0, 0, 0, 0, 0, (fun _ => (0 : Int32))), SU cy q3b q3d (fun _ => (0 : Int32)), SC q3c (0, 0, 0, 0, 0, 0), HI q4 q4a (0, 0), HR cy q4a ta hrZ, SL q5 q5a 0, TB cy q5a q5b q5c q5d (0, 0, 0, 0, 0, 0, 0, (fun _ => (0 : Int32))), SU cy q5c q5f (fun _ => (0 : Int32)), SC q5d (0, 0, 0, 0, 0, 0), SL q6 q6a 0, TB cy q6a q6b q6c q6d (0, 0, 0, 0, 0, 0, 0, (fun _ => (0 : Int32))), SU cy q6c q6f (fun _ => (0 : Int32)), SC q6d (0, 0, 0, 0, 0, 0)]) rfl ?_
  refine g_perm (gp_pick (out := [[(h0, .inr (7, [.ref q1, .ref q2, .ref q3, .ref q4, .ref q5, .ref q6, .null, .null, .null]))], TX cy q1 q1a (0, 0, 0, 0, 0, 0, 0, 0, (fun _ => (0 : Int32))), TB cy q2 q2a q2b q2c (0, 0, 0, 0, 0, 0, 0, (fun _ => (0 : Int32))), SU cy q2b q2d (fun _ => (0 : Int32)), SC q2c (0, 0, 0, 0, 0, 0), TB cy q3 q3a q3b q3c (0, 0, 0, 0, 0, 0, 0, (fun _ => (0 : Int32))), SU cy q3b q3d (fun _ => (0 : Int32)), SC q3c (0, 0, 0, 0, 0, 0), HI q4 q4a (0, 0), HR cy q4a ta hrZ, SL q5 q5a 0, TB cy q5a q5b q5c q5d (0, 0, 0, 0, 0, 0, 0, (fun _ => (0 : Int32))), SU cy q5c q5f (fun _ => (0 : Int32)), SC q5d (0, 0, 0, 0, 0, 0), SL q6 q6a 0, TB cy q6a q6b q6c q6d (0, 0, 0, 0, 0, 0, 0, (fun _ => (0 : Int32))), SU cy q6c q6f (fun _ => (0 : Int32)), SC q6d (0, 0, 0, 0, 0, 0), TA q7 (0, 0, 0)]) (by decide : ([1, 2, 3, 4, 5, 6, 7, 8, 9, 10, 11, 12, 13, 14, 15, 16, 17, 18, 0] : List Nat).Perm (List.range 19)) rfl) ?_
  refine g_putF (gs' := [[(h0, .inr (7, [.ref q1, .ref q2, .ref q3, .ref q4, .ref q5, .ref q6, .ref q7, .null, .null]))], TX cy q1 q1a (0, 0, 0, 0, 0, 0, 0, 0, (fun _ => (0 : Int32))), TB cy q2 q2a q2b q2c (0, 0, 0, 0, 0, 0, 0, (fun _ => (0 : Int32))), SU cy q2b q2d (fun _ => (0 : Int32)), SC q2c (0, 0, 0, 0, 0, 0), TB cy q3 q3a q3b q3c (0, 0, 0, 0, 0, 0, 0, (fun _ => (0 : Int32))), SU cy q3b q3d (fun _ => (0 : Int32)), SC q3c (0, 0, 0, 0, 0, 0), HI q4 q4a (0, 0), HR cy q4a ta hrZ, SL q5 q5a 0, TB cy q5a q5b q5c q5d (0, 0, 0, 0, 0, 0, 0, (fun _ => (0 : Int32))), SU cy q5c q5f (fun _ => (0 : Int32)), SC q5d (0, 0, 0, 0, 0, 0), SL q6 q6a 0, TB cy q6a q6b q6c q6d (0, 0, 0, 0, 0, 0, 0, (fun _ => (0 : Int32))), SU cy q6c q6f (fun _ => (0 : Int32)), SC q6d (0, 0, 0, 0, 0, 0), TA q7 (0, 0, 0)]) X hn dX7_init_78 ck_X7 ct_X7 0 0 6 rfl rfl (Nat.le_of_ble_eq_true rfl) lkf_X7_46 rfl rfl rfl rfl (Nat.le_of_ble_eq_true rfl) rfl ?_
  refine g_aload_n X dX7_init_81 0 rfl rfl ?_
  refine g_cxS (gc := []) (gr := [[(h0, .inr (7, [.ref q1, .ref q2, .ref q3, .ref q4, .ref q5, .ref q6, .ref q7, .null, .null]))], TX cy q1 q1a (0, 0, 0, 0, 0, 0, 0, 0, (fun _ => (0 : Int32))), TB cy q2 q2a q2b q2c (0, 0, 0, 0, 0, 0, 0, (fun _ => (0 : Int32))), SU cy q2b q2d (fun _ => (0 : Int32)), SC q2c (0, 0, 0, 0, 0, 0), TB cy q3 q3a q3b q3c (0, 0, 0, 0, 0, 0, 0, (fun _ => (0 : Int32))), SU cy q3b q3d (fun _ => (0 : Int32)), SC q3c (0, 0, 0, 0, 0, 0), HI q4 q4a (0, 0), HR cy q4a ta hrZ, SL q5 q5a 0, TB cy q5a q5b q5c q5d (0, 0, 0, 0, 0, 0, 0, (fun _ => (0 : Int32))), SU cy q5c q5f (fun _ => (0 : Int32)), SC q5d (0, 0, 0, 0, 0, 0), SL q6 q6a 0, TB cy q6a q6b q6c q6d (0, 0, 0, 0, 0, 0, 0, (fun _ => (0 : Int32))), SU cy q6c q6f (fun _ => (0 : Int32)), SC q6d (0, 0, 0, 0, 0, 0), TA q7 (0, 0, 0)]) (As := []) (rest := [.ref h0]) X hO dX7_init_82 (c_X7_setsOfOne l D cy ad hf12) mf_X7_setsOfOne ms_X7_setsOfOne lkm_X7_50 ⟨(Nat.le_of_ble_eq_true rfl), (Nat.le_of_ble_eq_true rfl), (Nat.le_of_ble_eq_true rfl), (Nat.le_of_ble_eq_true rfl)⟩ [0, 1, 2, 3, 4, 5, 6, 7, 8, 9, 10, 11, 12, 13, 14, 15, 16, 17, 18] (by decide : ([0, 1, 2, 3, 4, 5, 6, 7, 8, 9, 10, 11, 12, 13, 14, 15, 16, 17, 18] : List Nat).Perm (List.range 19)) rfl (Nat.le_of_ble_eq_true rfl) rfl ?_
  rintro _ _ ⟨q8, rfl, rfl⟩
  refine g_gs (gs' := [AI cy 12 q8 w12, [(h0, .inr (7, [.ref q1, .ref q2, .ref q3, .ref q4, .ref q5, .ref q6, .ref q7, .null, .null]))], TX cy q1 q1a (0, 0, 0, 0, 0, 0, 0, 0, (fun _ => (0 : Int32))), TB cy q2 q2a q2b q2c (0, 0, 0, 0, 0, 0, 0, (fun _ => (0 : Int32))), SU cy q2b q2d (fun _ => (0 : Int32)), SC q2c (0, 0, 0, 0, 0, 0), TB cy q3 q3a q3b q3c (0, 0, 0, 0, 0, 0, 0, (fun _ => (0 : Int32))), SU cy q3b q3d (fun _ => (0 : Int32)), SC q3c (0, 0, 0, 0, 0, 0), HI q4 q4a (0, 0), HR cy q4a ta hrZ, SL q5 q5a 0, TB cy q5a q5b q5c q5d (0, 0, 0, 0, 0, 0, 0, (fun _ => (0 : Int32))), SU cy q5c q5f (fun _ => (0 : Int32)), SC q5d (0, 0, 0, 0, 0, 0), SL q6 q6a 0, TB cy q6a q6b q6c q6d (0, 0, 0, 0, 0, 0, 0, (fun _ => (0 : Int32))), SU cy q6c q6f (fun _ => (0 : Int32)), SC q6d (0, 0, 0, 0, 0, 0), TA q7 (0, 0, 0)]) rfl ?_
  refine g_perm (gp_pick (out := [[(h0, .inr (7, [.ref q1, .ref q2, .ref q3, .ref q4, .ref q5, .ref q6, .ref q7, .null, .null]))], TX cy q1 q1a (0, 0, 0, 0, 0, 0, 0, 0, (fun _ => (0 : Int32))), TB cy q2 q2a q2b q2c (0, 0, 0, 0, 0, 0, 0, (fun _ => (0 : Int32))), SU cy q2b q2d (fun _ => (0 : Int32)), SC q2c (0, 0, 0, 0, 0, 0), TB cy q3 q3a q3b q3c (0, 0, 0, 0, 0, 0, 0, (fun _ => (0 : Int32))), SU cy q3b q3d (fun _ => (0 : Int32)), SC q3c (0, 0, 0, 0, 0, 0), HI q4 q4a (0, 0), HR cy q4a ta hrZ, SL q5 q5a 0, TB cy q5a q5b q5c q5d (0, 0, 0, 0, 0, 0, 0, (fun _ => (0 : Int32))), SU cy q5c q5f (fun _ => (0 : Int32)), SC q5d (0, 0, 0, 0, 0, 0), SL q6 q6a 0, TB cy q6a q6b q6c q6d (0, 0, 0, 0, 0, 0, 0, (fun _ => (0 : Int32))), SU cy q6c q6f (fun _ => (0 : Int32)), SC q6d (0, 0, 0, 0, 0, 0), TA q7 (0, 0, 0), AI cy 12 q8 w12]) (by decide : ([1, 2, 3, 4, 5, 6, 7, 8, 9, 10, 11, 12, 13, 14, 15, 16, 17, 18, 19, 0] : List Nat).Perm (List.range 20)) rfl) ?_
  refine g_putF (gs' := [[(h0, .inr (7, [.ref q1, .ref q2, .ref q3, .ref q4, .ref q5, .ref q6, .ref q7, .ref q8, .null]))], TX cy q1 q1a (0, 0, 0, 0, 0, 0, 0, 0, (fun _ => (0 : Int32))), TB cy q2 q2a q2b q2c (0, 0, 0, 0, 0, 0, 0, (fun _ => (0 : Int32))), SU cy q2b q2d (fun _ => (0 : Int32)), SC q2c (0, 0, 0, 0, 0, 0), TB cy q3 q3a q3b q3c (0, 0, 0, 0, 0, 0, 0, (fun _ => (0 : Int32))), SU cy q3b q3d (fun _ => (0 : Int32)), SC q3c (0, 0, 0, 0, 0, 0), HI q4 q4a (0, 0), HR cy q4a ta hrZ, SL q5 q5a 0, TB cy q5a q5b q5c q5d (0, 0, 0, 0, 0, 0, 0, (fun _ => (0 : Int32))), SU cy q5c q5f (fun _ => (0 : Int32)), SC q5d (0, 0, 0, 0, 0, 0), SL q6 q6a 0, TB cy q6a q6b q6c q6d (0, 0, 0, 0, 0, 0, 0, (fun _ => (0 : Int32))), SU cy q6c q6f (fun _ => (0 : Int32)), SC q6d (0, 0, 0, 0, 0, 0), TA q7 (0, 0, 0), AI cy 12 q8 w12]) X hn dX7_init_85 ck_X7 ct_X7 0 0 7 rfl rfl (Nat.le_of_ble_eq_true rfl) lkf_X7_54 rfl rfl rfl rfl (Nat.le_of_ble_eq_true rfl) rfl ?_
  refine g_aload_n X dX7_init_88 0 rfl rfl ?_
  refine g_cxS (gc := []) (gr := [[(h0, .inr (7, [.ref q1, .ref q2, .ref q3, .ref q4, .ref q5, .ref q6, .ref q7, .ref q8, .null]))], TX cy q1 q1a (0, 0, 0, 0, 0, 0, 0, 0, (fun _ => (0 : Int32))), TB cy q2 q2a q2b q2c (0, 0, 0, 0, 0, 0, 0, (fun _ => (0 : Int32))), SU cy q2b q2d (fun _ => (0 : Int32)), SC q2c (0, 0, 0, 0, 0, 0), TB cy q3 q3a q3b q3c (0, 0, 0, 0, 0, 0, 0, (fun _ => (0 : Int32))), SU cy q3b q3d (fun _ => (0 : Int32)), SC q3c (0, 0, 0, 0, 0, 0), HI q4 q4a (0, 0), HR cy q4a ta hrZ, SL q5 q5a 0, TB cy q5a q5b q5c q5d (0, 0, 0, 0, 0, 0, 0, (fun _ => (0 : Int32))), SU cy q5c q5f (fun _ => (0 : Int32)), SC q5d (0, 0, 0, 0, 0, 0), SL q6 q6a 0, TB cy q6a q6b q6c q6d (0, 0, 0, 0, 0, 0, 0, (fun _ => (0 : Int32))), SU cy q6c q6f (fun _ => (0 : Int32)), SC q6d (0, 0, 0, 0, 0, 0), TA q7 (0, 0, 0), AI cy 12 q8 w12]) (As := []) (rest := [.ref h0]) X hO dX7_init_89 (c_X7_setsOfTwo l D cy ad hf66) mf_X7_setsOfTwo ms_X7_setsOfTwo lkm_X7_58 ⟨(Nat.le_of_ble_eq_true rfl), (Nat.le_of_ble_eq_true rfl), (Nat.le_of_ble_eq_true rfl), (Nat.le_of_ble_eq_true rfl)⟩ [0, 1, 2, 3, 4, 5, 6, 7, 8, 9, 10, 11, 12, 13, 14, 15, 16, 17, 18, 19] (by decide : ([0, 1, 2, 3, 4, 5, 6, 7, 8, 9, 10, 11, 12, 13, 14, 15, 16, 17, 18, 19] : List Nat).Perm (List.range 20)) rfl (Nat.le_of_ble_eq_true rfl) rfl ?_
  rintro _ _ ⟨q9, rfl, rfl⟩
  refine g_gs (gs' := [AI cy 66 q9 w66, [(h0, .inr (7, [.ref q1, .ref q2, .ref q3, .ref q4, .ref q5, .ref q6, .ref q7, .ref q8, .null]))], TX cy q1 q1a (0, 0, 0, 0, 0, 0, 0, 0, (fun _ => (0 : Int32))), TB cy q2 q2a q2b q2c (0, 0, 0, 0, 0, 0, 0, (fun _ => (0 : Int32))), SU cy q2b q2d (fun _ => (0 : Int32)), SC q2c (0, 0, 0, 0, 0, 0), TB cy q3 q3a q3b q3c (0, 0, 0, 0, 0, 0, 0, (fun _ => (0 : Int32))), SU cy q3b q3d (fun _ => (0 : Int32)), SC q3c (0, 0, 0, 0, 0, 0), HI q4 q4a (0, 0), HR cy q4a ta hrZ, SL q5 q5a 0, TB cy q5a q5b q5c q5d (0, 0, 0, 0, 0, 0, 0, (fun _ => (0 : Int32))), SU cy q5c q5f (fun _ => (0 : Int32)), SC q5d (0, 0, 0, 0, 0, 0), SL q6 q6a 0, TB cy q6a q6b q6c q6d (0, 0, 0, 0, 0, 0, 0, (fun _ => (0 : Int32))), SU cy q6c q6f (fun _ => (0 : Int32)), SC q6d (0, 0, 0, 0, 0, 0), TA q7 (0, 0, 0), AI cy 12 q8 w12]) rfl ?_
  refine g_perm (gp_pick (out := [[(h0, .inr (7, [.ref q1, .ref q2, .ref q3, .ref q4, .ref q5, .ref q6, .ref q7, .ref q8, .null]))], TX cy q1 q1a (0, 0, 0, 0, 0, 0, 0, 0, (fun _ => (0 : Int32))), TB cy q2 q2a q2b q2c (0, 0, 0, 0, 0, 0, 0, (fun _ => (0 : Int32))), SU cy q2b q2d (fun _ => (0 : Int32)), SC q2c (0, 0, 0, 0, 0, 0), TB cy q3 q3a q3b q3c (0, 0, 0, 0, 0, 0, 0, (fun _ => (0 : Int32))), SU cy q3b q3d (fun _ => (0 : Int32)), SC q3c (0, 0, 0, 0, 0, 0), HI q4 q4a (0, 0), HR cy q4a ta hrZ, SL q5 q5a 0, TB cy q5a q5b q5c q5d (0, 0, 0, 0, 0, 0, 0, (fun _ => (0 : Int32))), SU cy q5c q5f (fun _ => (0 : Int32)), SC q5d (0, 0, 0, 0, 0, 0), SL q6 q6a 0, TB cy q6a q6b q6c q6d (0, 0, 0, 0, 0, 0, 0, (fun _ => (0 : Int32))), SU cy q6c q6f (fun _ => (0 : Int32)), SC q6d (0, 0, 0, 0, 0, 0), TA q7 (0, 0, 0), AI cy 12 q8 w12, AI cy 66 q9 w66]) (by decide : ([1, 2, 3, 4, 5, 6, 7, 8, 9, 10, 11, 12, 13, 14, 15, 16, 17, 18, 19, 20, 0] : List Nat).Perm (List.range 21)) rfl) ?_
  refine g_putF (gs' := [[(h0, .inr (7, [.ref q1, .ref q2, .ref q3, .ref q4, .ref q5, .ref q6, .ref q7, .ref q8, .ref q9]))], TX cy q1 q1a (0, 0, 0, 0, 0, 0, 0, 0, (fun _ => (0 : Int32))), TB cy q2 q2a q2b q2c (0, 0, 0, 0, 0, 0, 0, (fun _ => (0 : Int32))), SU cy q2b q2d (fun _ => (0 : Int32)), SC q2c (0, 0, 0, 0, 0, 0), TB cy q3 q3a q3b q3c (0, 0, 0, 0, 0, 0, 0, (fun _ => (0 : Int32))), SU cy q3b q3d (fun _ => (0 : Int32)), SC q3c (0, 0, 0, 0, 0, 0), HI q4 q4a (0, 0), HR cy q4a ta hrZ, SL q5 q5a 0, TB cy q5a q5b q5c q5d (0, 0, 0, 0, 0, 0, 0, (fun _ => (0 : Int32))), SU cy q5c q5f (fun _ => (0 : Int32)), SC q5d (0, 0, 0, 0, 0, 0), SL q6 q6a 0, TB cy q6a q6b q6c q6d (0, 0, 0, 0, 0, 0, 0, (fun _ => (0 : Int32))), SU cy q6c q6f (fun _ => (0 : Int32)), SC q6d (0, 0, 0, 0, 0, 0), TA q7 (0, 0, 0), AI cy 12 q8 w12, AI cy 66 q9 w66]) X hn dX7_init_92 ck_X7 ct_X7 0 0 8 rfl rfl (Nat.le_of_ble_eq_true rfl) lkf_X7_61 rfl rfl rfl rfl (Nat.le_of_ble_eq_true rfl) rfl ?_
  refine g_gs (gs' := [FP h0 q1 q2 q3 q4 q5 q6 q7 q8 q9, TX cy q1 q1a (0, 0, 0, 0, 0, 0, 0, 0, (fun _ => (0 : Int32))), TB cy q2 q2a q2b q2c (0, 0, 0, 0, 0, 0, 0, (fun _ => (0 : Int32))), SU cy q2b q2d (fun _ => (0 : Int32)), SC q2c (0, 0, 0, 0, 0, 0), TB cy q3 q3a q3b q3c (0, 0, 0, 0, 0, 0, 0, (fun _ => (0 : Int32))), SU cy q3b q3d (fun _ => (0 : Int32)), SC q3c (0, 0, 0, 0, 0, 0), HI q4 q4a (0, 0), HR cy q4a ta hrZ, SL q5 q5a 0, TB cy q5a q5b q5c q5d (0, 0, 0, 0, 0, 0, 0, (fun _ => (0 : Int32))), SU cy q5c q5f (fun _ => (0 : Int32)), SC q5d (0, 0, 0, 0, 0, 0), SL q6 q6a 0, TB cy q6a q6b q6c q6d (0, 0, 0, 0, 0, 0, 0, (fun _ => (0 : Int32))), SU cy q6c q6f (fun _ => (0 : Int32)), SC q6d (0, 0, 0, 0, 0, 0), TA q7 (0, 0, 0), AI cy 12 q8 w12, AI cy 66 q9 w66]) rfl ?_
  refine g_perm (gp_pick (out := [FP h0 q1 q2 q3 q4 q5 q6 q7 q8 q9, TX cy q1 q1a (0, 0, 0, 0, 0, 0, 0, 0, (fun _ => (0 : Int32))), TB cy q2 q2a q2b q2c (0, 0, 0, 0, 0, 0, 0, (fun _ => (0 : Int32))), SU cy q2b q2d (fun _ => (0 : Int32)), SC q2c (0, 0, 0, 0, 0, 0), TB cy q3 q3a q3b q3c (0, 0, 0, 0, 0, 0, 0, (fun _ => (0 : Int32))), SU cy q3b q3d (fun _ => (0 : Int32)), SC q3c (0, 0, 0, 0, 0, 0), HI q4 q4a (0, 0), HR cy q4a ta hrZ, SL q5 q5a 0, TB cy q5a q5b q5c q5d (0, 0, 0, 0, 0, 0, 0, (fun _ => (0 : Int32))), SU cy q5c q5f (fun _ => (0 : Int32)), SL q6 q6a 0, TB cy q6a q6b q6c q6d (0, 0, 0, 0, 0, 0, 0, (fun _ => (0 : Int32))), SU cy q6c q6f (fun _ => (0 : Int32)), TA q7 (0, 0, 0), AI cy 12 q8 w12, AI cy 66 q9 w66, SC q5d (0, 0, 0, 0, 0, 0), SC q6d (0, 0, 0, 0, 0, 0)]) (by decide : ([0, 1, 2, 3, 4, 5, 6, 7, 8, 9, 10, 11, 12, 14, 15, 16, 18, 19, 20, 13, 17] : List Nat).Perm (List.range 21)) rfl) ?_
  refine g_aload_n X dX7_init_95 0 rfl rfl ?_
  refine g_get X dX7_init_96 ck_X7 0 0 1 rfl rfl (Nat.le_of_ble_eq_true rfl) lkf_X7_19 rfl ?_
  refine g_callV (As := []) (gs' := [FP h0 q1 q2 q3 q4 q5 q6 q7 q8 q9, TX cy q1 q1a (0, 0, 0, 0, 0, 0, 0, 0, (fun _ => (0 : Int32))), TB cy q2 q2a q2b q2c q.1, SU cy q2b q2d q.2, SC q2c (0, 0, 0, 0, 0, 0), TB cy q3 q3a q3b q3c (0, 0, 0, 0, 0, 0, 0, (fun _ => (0 : Int32))), SU cy q3b q3d (fun _ => (0 : Int32)), SC q3c (0, 0, 0, 0, 0, 0), HI q4 q4a (0, 0), HR cy q4a ta hrZ, SL q5 q5a 0, TB cy q5a q5b q5c q5d (0, 0, 0, 0, 0, 0, 0, (fun _ => (0 : Int32))), SU cy q5c q5f (fun _ => (0 : Int32)), SL q6 q6a 0, TB cy q6a q6b q6c q6d (0, 0, 0, 0, 0, 0, 0, (fun _ => (0 : Int32))), SU cy q6c q6f (fun _ => (0 : Int32)), TA q7 (0, 0, 0), AI cy 12 q8 w12, AI cy 66 q9 w66, SC q5d (0, 0, 0, 0, 0, 0), SC q6d (0, 0, 0, 0, 0, 0)]) (rest := []) X dX7_init_99 (c_X4_reset l D cy ad q2 q2a q2b q2c q2d _ _ hf) mf_X4_reset mv_X4_reset lkm_X7_64 ⟨(Nat.le_of_ble_eq_true rfl), (Nat.le_of_ble_eq_true rfl), (Nat.le_of_ble_eq_true rfl), (Nat.le_of_ble_eq_true rfl)⟩ 2 0 rfl rfl rfl rfl [2, 3, 0, 1, 4, 5, 6, 7, 8, 9, 10, 11, 12, 13, 14, 15, 16, 17, 18, 19, 20] _ (by decide : ([2, 3, 0, 1, 4, 5, 6, 7, 8, 9, 10, 11, 12, 13, 14, 15, 16, 17, 18, 19, 20] : List Nat).Perm (List.range 21)) rfl (by decide : ([2, 3, 0, 1, 4, 5, 6, 7, 8, 9, 10, 11, 12, 13, 14, 15, 16, 17, 18, 19, 20] : List Nat).Perm (List.range 21)) rfl (Nat.le_of_ble_eq_true rfl) rfl ?_
  exact g_cxret (P := (fun rv gs => ∃ h1 : Nat, ∃ h2 : Nat, ∃ h3 : Nat, ∃ h4 : Nat, ∃ h5 : Nat, ∃ h6 : Nat, ∃ h7 : Nat, ∃ h8 : Nat, ∃ h9 : Nat, ∃ t1 : Nat, ∃ a1 : Nat, ∃ a2 : Nat, ∃ a3 : Nat, ∃ a4 : Nat, ∃ b1 : Nat, ∃ b2 : Nat, ∃ b3 : Nat, ∃ b4 : Nat, ∃ r1 : Nat, ∃ d1 : Nat, ∃ d2 : Nat, ∃ d3 : Nat, ∃ d4 : Nat, ∃ d5 : Nat, ∃ e1 : Nat, ∃ e2 : Nat, ∃ e3 : Nat, ∃ e4 : Nat, ∃ e5 : Nat, ∃ ta : TAd, rv = none ∧ gs = gX7z cy h0 h1 h2 h3 h4 h5 h6 h7 h8 h9 t1 a1 a2 a3 a4 b1 b2 b3 b4 r1 d1 d2 d3 d4 d5 e1 e2 e3 e4 e5 ta q w12 w66)) (rv := none) ⟨q1, q2, q3, q4, q5, q6, q7, q8, q9, q1a, q2a, q2b, q2c, q2d, q3a, q3b, q3c, q3d, q4a, q5a, q5b, q5c, q5d, q5f, q6a, q6b, q6c, q6d, q6f, ta, rfl, rfl⟩ (Nat.le_of_ble_eq_true rfl) (Nat.le_of_ble_eq_true rfl) (g_vret X hr dX7_init_102)
