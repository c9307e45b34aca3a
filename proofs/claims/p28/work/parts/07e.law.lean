/-! ===== the script's cells; the law: one turn of its loop ===== -/
def czP (D : va_G) (cy : Nat → ClassId) (ad : (Nat → Nat) × (Nat → Nat)) (b L : Nat) (xs : Fn) (sz : Nat) (av : List Value) (w0 : va_W) : Array Value → State → Prop := fun a U => cmP D cy ad sz av w0 a U ∧ va_X b L xs U U.heap
def CZ (l : Launch) (y : MethodName) (cc : ByteArray) (maxL : Nat) (ret : Option FieldType) (rm : Room) (D : va_G) (cy : Nat → ClassId) (ad : (Nat → Nat) × (Nat → Nat)) (b L : Nat) (xs : Fn) (av : List Value) (rv : Option Value) : Prop :=
  ∀ sz, b < sz → Met l y (gW y cc maxL ret) rm (czP D cy ad b L xs sz av []) (cmQ D cy (va_A [] sz) rv []) rm.cells rm.slots (va_A [] sz)
theorem czP_blind {D : va_G} {cy : Nat → ClassId} {ad : (Nat → Nat) × (Nat → Nat)} {b L : Nat} {xs : Fn} {sz : Nat} {av : List Value} {w0 : va_W} : FrameBlind (czP D cy ad b L xs sz av w0) := by
  intro a U g mk h
  exact ⟨cmP_blind a U g mk h.1, va_X.moved (u := U) (U := U.calling g mk a) (Vm.Alike.refl U.vm) h.2⟩
theorem cz_of {l : Launch} {y : MethodName} {cc : ByteArray} {maxL : Nat} {ret : Option FieldType} {rm : Room} {D : va_G} {cy : Nat → ClassId} {ad : (Nat → Nat) × (Nat → Nat)} {b L : Nat} {xs : Fn} {av : List Value} {rv : Option Value} {lv0 : List (Nat × Value)}
    (hy : plainName y.cls = true) (hlen : (lg_sl av).length ≤ maxL) (hlv : lv_args 0 av = lv0)
    (body : ∀ {p : Program} {e : Env} {s : State} {m : MethodId} {args : Array Value} {below : List Frame} {meth : Method} {c : Code} {A : Nat → Prop}, gK p s m args meth c A D cy ad cc maxL y.cls → va_X b L xs s s.heap → b < s.heap.size ∧ ¬ A b → meth.sig.returnType = ret →
      GW p l e rm s m args below meth c A D maxL 0 0 (MQ below (cmQ D cy A rv ([] : List va_W).flatten) args s rm.cells rm.slots A) 0 lv0 [] []) : CZ l y cc maxL ret rm D cy ad b L xs av rv := by
  intro sz hbs
  refine Met.ofW (cc := cc) (maxL := maxL) (ret := ret) hy rfl ?_
  intro p e s m args below meth c s₁ B hml hv
  obtain ⟨⟨rfl, hsz, hP, hK, hD0, hE⟩, hX⟩ := hv
  subst hsz
  have hD := hD0.self (sz := s.heap.size)
  have X : gK p s m av.toArray meth c (va_A [] s.heap.size) D cy ad cc maxL y.cls :=
    ⟨B.exec, B.bytes, hml, findClass_of_methodNamed B.named, fun w h => atoms_spec (ws := gW y cc maxL ret) B.pre w (List.mem_cons_of_mem _ h), hK, fun q h => Or.inr h, B.notSynchronized, hE⟩
  have hl := lv_entry av (n := maxL) hlen
  rw [hlv] at hl
  rw [lg_entry_eq]
  have hb : ¬ va_A [] s.heap.size b := fun z => by
    rcases z with ⟨k, e9, h⟩ | h
    · simp at h
    · omega
  exact body X hX ⟨hbs, hb⟩ B.returns _ _ _ hP hD va_S.rf hl
section GWL
variable {p : Program} {l : Launch} {e : Env} {R : Room} {s : State} {m : MethodId} {args : Array Value} {below : List Frame} {meth : Method} {c : Code} {cells slots : Nat} {Q : State → Prop} {A : Nat → Prop} {D : va_G} {cy : Nat → ClassId} {ad : (Nat → Nat) × (Nat → Nat)} {cc : ByteArray} {nL : Nat} {own : String} {pc : Nat} {lv : List (Nat × Value)} {st rest : List Value} {gs : List va_W}
theorem g_sld {b L : Nat} {xs : Fn} {i : Int32} (X : gK p s m args meth c A D cy ad cc nL own) (hX : va_X b L xs s s.heap) (hb : b < s.heap.size ∧ ¬ A b) (d : decode cc pc = .ok (.iaload, 1)) (hin : ¬ (i < 0 ∨ L ≤ i.toNatClampNeg)) (K : GW p l e R s m args below meth c A D nL cells slots Q (pc + 1) lv (.int (xs i.toNatClampNeg) :: st) gs) : GW p l e R s m args below meth c A D nL cells slots Q pc lv (.int i :: .ref b :: st) gs := fun H locs ls hP hD hS hl => va_sld X.1 X.2.1 hX hb.1 hb.2 hS hin d (K H locs ls hP hD hS hl)
theorem g_sln {b L : Nat} {xs : Fn} (X : gK p s m args meth c A D cy ad cc nL own) (hX : va_X b L xs s s.heap) (hb : b < s.heap.size ∧ ¬ A b) (d : decode cc pc = .ok (.arraylength, 1)) (K : GW p l e R s m args below meth c A D nL cells slots Q (pc + 1) lv (.int (Int32.ofNat L) :: st) gs) : GW p l e R s m args below meth c A D nL cells slots Q pc lv (.ref b :: st) gs := fun H locs ls hP hD hS hl => va_slen X.1 X.2.1 hX hb.1 hb.2 hS d (K H locs ls hP hD hS hl)
theorem g_callZ (X : gK p s m args meth c A D cy ad cc nL own) {index b L : Nat} {xs : Fn} {y : MethodName} {bytes : ByteArray} {maxL : Nat} {ret : Option FieldType} {rm : Room} {As : List Value} {rv : Option Value} (hX : va_X b L xs s s.heap) (hb : b < s.heap.size ∧ ¬ A b) (d : decode cc pc = .ok (.invokestatic index, 3)) (hM : CZ l y bytes maxL ret rm D cy ad b L xs As rv) (hm : mF y bytes maxL ret As.length) (hv : Cond.static y ∈ wG) (hlink : Cond.methodLink own index y ∈ wG) (hR : rm.frames + 1 ≤ R.frames ∧ 8 + (maxL + 11) + rm.locals ≤ R.locals ∧ cells + rm.cells ≤ R.cells ∧ slots + rm.slots ≤ R.slots)
    (hW : (rest.map fun v => v.category).sum ≤ 8) (hst : st = As.reverse ++ rest) (K : GW p l e R s m args below meth c A D nL (cells + rm.cells) (slots + rm.slots) Q (pc + 3) lv (rv.toList ++ rest) gs) : GW p l e R s m args below meth c A D nL cells slots Q pc lv st gs := by
  intro H locs ls hP hD hS hl
  subst hst
  have q1 : gs.Perm (([] : List va_W) ++ gs) := List.Perm.refl _
  have hr := va_runS (g := F0 m pc ls (As.reverse ++ rest)) (rest := rest) (R := R) (cells := cells) (slots := slots) (below := below) (meth := meth) (e := e) (locs := locs) (n := As.length) (index := index) (bytes := bytes) (maxL := maxL) (ret := ret) ⟨X.1, X.2.1, X.2.2.1, X.2.2.2.1, X.2.2.2.2.1⟩ (hM H.size (Nat.lt_of_lt_of_le hb.1 hS.1))
    ⟨callB_of As.length X.2.2.2.2.1 (gW_good hm.1) rfl rfl rfl (X.2.2.2.2.1 _ hm.2.1) (X.2.2.2.2.1 _ hlink) hm.2.2 ⟨hR.1, hR.2.1⟩, X.2.2.2.2.1 _ hv⟩
    ⟨czP_blind, fun U hU hW9 => ⟨g_pre X q1 hP hD hS _ U hU hW9, va_X.moved hW9.alike (by rw [hU]; exact hX.kept (hS.2.1 b hb.1 hb.2))⟩⟩ rfl rfl hl.1 rfl (lv_room hW) d ⟨hR.2.2.1, hR.2.2.2⟩
  exact g_back (gc := []) (gc' := []) (gr := gs) (y := y) (av := As) (g := F0 m pc ls (As.reverse ++ rest)) X q1 (List.Perm.refl _) hP hD hS hl hr K
end GWL
abbrev rmL_cell : Room := ({ frames := 0, cells := 0, slots := 0, locals := 0 } : Room)
def f_L_cell (L : Nat) (xs : Fn) (k : Int32) : Option Int32 :=
  if Int32.ofNat L ≤ k then some (((15519283 : Int32) * (k + (3 : Int32)) + (11411 : Int32)) &&& (2147483647 : Int32)) else if k < 0 ∨ L ≤ k.toNatClampNeg then none else some (xs k.toNatClampNeg &&& (2147483647 : Int32))
theorem c_L_cell (l : Launch) (D : va_G) (cy : Nat → ClassId) (ad : (Nat → Nat) × (Nat → Nat)) (b L : Nat) (xs : Fn) (k : Int32) {q : Int32} (hf : f_L_cell L xs k = some q) : CZ l yL_cell cL_cell 2 (some .int) rmL_cell D cy ad b L xs [.ref b, .int k] (some (.int q)) := by
  refine cz_of (lv0 := [(0, .ref b), (1, .int k)]) (by decide) (Nat.le_of_ble_eq_true rfl) rfl ?_
  intro p e s m args below meth c A X hX hb hr
  have X : gK p s m args meth c A D cy ad cL_cell 2 RL := X
  unfold f_L_cell at hf
  refine g_iload_n X dL_cell_0 1 rfl rfl ?_
  refine g_aload_n X dL_cell_1 0 rfl rfl ?_
  refine g_sln X hX hb dL_cell_2 ?_
  refine g_icmp_ge X 12 dL_cell_3 (by decide) (fun c1 => ?_) (fun c1 => ?_)
  · have hf := opos c1 hf
    refine g_ldc X lkc_L_142 dL_cell_12 ?_
    refine g_iload_n X dL_cell_14 1 rfl rfl ?_
    refine g_iconst X (3 : Int32) dL_cell_15 (by decide) ?_
    refine g_iadd X dL_cell_16 ?_
    refine g_imul X dL_cell_17 ?_
    refine g_sipush X (11411 : Int32) dL_cell_18 (by decide) ?_
    refine g_iadd X dL_cell_21 ?_
    refine g_ldc X lkc_L_143 dL_cell_22 ?_
    refine g_iand X dL_cell_24 ?_
    have hf := Option.some.inj hf
    subst hf
    exact g_iret X hr dL_cell_25
  · have hf := oneg c1 hf
    obtain ⟨n1, hf⟩ := oguard hf
    refine g_aload_n X dL_cell_6 0 rfl rfl ?_
    refine g_iload_n X dL_cell_7 1 rfl rfl ?_
    refine g_sld X hX hb dL_cell_8 n1 ?_
    refine g_goto X 22 dL_cell_9 (by decide) ?_
    refine g_ldc X lkc_L_143 dL_cell_22 ?_
    refine g_iand X dL_cell_24 ?_
    have hf := Option.some.inj hf
    subst hf
    exact g_iret X hr dL_cell_25
abbrev rmL_law : Room := room_1
def f_L_law_B34_b226 (L : Nat) (xs : Fn) (v0 : OBv) (v1 : OBv) (x3 : Int32) (x5 : Int32) (y0 : Bool) : Option ((Bool × Int32 × OBv × OBv) ⊕ ((Bool × OBv × OBv))) :=
  some (.inl (y0, (x5 + (1 : Int32)), v0, v1))
set_option maxRecDepth 100000 in
set_option maxHeartbeats 4000000 in
theorem j_L_law_B34_b226 {p : Program} {l : Launch} {e : Env} {s : State} {m : MethodId} {args : Array Value} {below : List Frame} {meth : Method} {c : Code} {A : Nat → Prop} {D : va_G} {cy : Nat → ClassId} {ad : (Nat → Nat) × (Nat → Nat)} {Q : State → Prop} (X : gK p s m args meth c A D cy ad cL_law 11 RL) (hr : meth.sig.returnType = some .boolean) (hfl : l.stackTraces = false) {b L : Nat} {xs : Fn} (hX : va_X b L xs s s.heap) (hb : b < s.heap.size ∧ ¬ A b) {cb sb : Nat} (hk1 : ∀ k, k ≤ 1393 → cb + k ≤ 642188) (hk2 : ∀ k, k ≤ 8364 → sb + k ≤ 7174904) {h0 k0 : Nat} {hs ks : Nat → Nat} {ta tb : TAd} (v0 : OBv) (v1 : OBv) (x3 : Int32) (x5 : Int32) (y0 : Bool) {q : (Bool × Int32 × OBv × OBv) ⊕ ((Bool × OBv × OBv))} (hf : f_L_law_B34_b226 L xs v0 v1 x3 x5 y0 = some q) (K1 : ∀ s' : Bool × Int32 × OBv × OBv, q = .inl s' → GW p l e rmL_law s m args below meth c A D 11 (cb + 1393) (sb + 8364) Q 34 [(0, .ref b), (1, .ref h0), (2, .ref k0), (3, .int x3), (4, .int (b2i s'.1)), (5, .int s'.2.1)] [] [OB cy h0 hs ta s'.2.2.1, OB cy k0 ks tb s'.2.2.2]) (K2 : ∀ e' : Bool × OBv × OBv, q = .inr (e') → GW p l e rmL_law s m args below meth c A D 11 (cb + 1393) (sb + 8364) Q 234 [(4, .int (b2i e'.1))] [] [OB cy h0 hs ta e'.2.1, OB cy k0 ks tb e'.2.2]) : GW p l e rmL_law s m args below meth c A D 11 (cb + 1393) (sb + 8364) Q 226 [(0, .ref b), (1, .ref h0), (2, .ref k0), (3, .int x3), (5, .int x5)] [.int (b2i y0)] [OB cy h0 hs ta v0, OB cy k0 ks tb v1] := by
  unfold f_L_law_B34_b226 at hf
  refine g_istore (lv' := [(0, .ref b), (1, .ref h0), (2, .ref k0), (3, .int x3), (4, .int (b2i y0)), (5, .int x5)]) X dL_law_226 [1, 2, 3, 4, 0, 5] (Nat.le_of_ble_eq_true rfl) rfl ?_
  refine g_iinc (lv' := [(0, .ref b), (1, .ref h0), (2, .ref k0), (3, .int x3), (4, .int (b2i y0)), (5, .int (x5 + (1 : Int32)))]) (v := (1 : Int32)) X dL_law_228 5 rfl (by decide) [1, 2, 3, 4, 5, 0] (Nat.le_of_ble_eq_true rfl) rfl ?_
  refine g_goto X 34 dL_law_231 (by decide) ?_
  exact K1 (y0, (x5 + (1 : Int32)), v0, v1) (Option.some.inj hf).symm
def f_L_law_B34_b225 (L : Nat) (xs : Fn) (v0 : OBv) (v1 : OBv) (x3 : Int32) (x5 : Int32) : Option ((Bool × Int32 × OBv × OBv) ⊕ ((Bool × OBv × OBv))) :=
  f_L_law_B34_b226 L xs v0 v1 x3 x5 false
set_option maxRecDepth 100000 in
set_option maxHeartbeats 4000000 in
theorem j_L_law_B34_b225 {p : Program} {l : Launch} {e : Env} {s : State} {m : MethodId} {args : Array Value} {below : List Frame} {meth : Method} {c : Code} {A : Nat → Prop} {D : va_G} {cy : Nat → ClassId} {ad : (Nat → Nat) × (Nat → Nat)} {Q : State → Prop} (X : gK p s m args meth c A D cy ad cL_law 11 RL) (hr : meth.sig.returnType = some .boolean) (hfl : l.stackTraces = false) {b L : Nat} {xs : Fn} (hX : va_X b L xs s s.heap) (hb : b < s.heap.size ∧ ¬ A b) {cb sb : Nat} (hk1 : ∀ k, k ≤ 1393 → cb + k ≤ 642188) (hk2 : ∀ k, k ≤ 8364 → sb + k ≤ 7174904) {h0 k0 : Nat} {hs ks : Nat → Nat} {ta tb : TAd} (v0 : OBv) (v1 : OBv) (x3 : Int32) (x5 : Int32) {q : (Bool × Int32 × OBv × OBv) ⊕ ((Bool × OBv × OBv))} (hf : f_L_law_B34_b225 L xs v0 v1 x3 x5 = some q) (K1 : ∀ s' : Bool × Int32 × OBv × OBv, q = .inl s' → GW p l e rmL_law s m args below meth c A D 11 (cb + 1393) (sb + 8364) Q 34 [(0, .ref b), (1, .ref h0), (2, .ref k0), (3, .int x3), (4, .int (b2i s'.1)), (5, .int s'.2.1)] [] [OB cy h0 hs ta s'.2.2.1, OB cy k0 ks tb s'.2.2.2]) (K2 : ∀ e' : Bool × OBv × OBv, q = .inr (e') → GW p l e rmL_law s m args below meth c A D 11 (cb + 1393) (sb + 8364) Q 234 [(4, .int (b2i e'.1))] [] [OB cy h0 hs ta e'.2.1, OB cy k0 ks tb e'.2.2]) : GW p l e rmL_law s m args below meth c A D 11 (cb + 1393) (sb + 8364) Q 225 [(0, .ref b), (1, .ref h0), (2, .ref k0), (3, .int x3), (5, .int x5)] [] [OB cy h0 hs ta v0, OB cy k0 ks tb v1] := by
  unfold f_L_law_B34_b225 at hf
  refine g_iconst X (0 : Int32) dL_law_225 (by decide) ?_
  exact j_L_law_B34_b226 X hr hfl hX hb hk1 hk2 v0 v1 x3 x5 false hf K1 K2
def f_L_law_B34_b221 (L : Nat) (xs : Fn) (v0 : OBv) (v1 : OBv) (x3 : Int32) (x5 : Int32) : Option ((Bool × Int32 × OBv × OBv) ⊕ ((Bool × OBv × OBv))) :=
  f_L_law_B34_b226 L xs v0 v1 x3 x5 true
set_option maxRecDepth 100000 in
set_option maxHeartbeats 4000000 in
theorem j_L_law_B34_b221 {p : Program} {l : Launch} {e : Env} {s : State} {m : MethodId} {args : Array Value} {below : List Frame} {meth : Method} {c : Code} {A : Nat → Prop} {D : va_G} {cy : Nat → ClassId} {ad : (Nat → Nat) × (Nat → Nat)} {Q : State → Prop} (X : gK p s m args meth c A D cy ad cL_law 11 RL) (hr : meth.sig.returnType = some .boolean) (hfl : l.stackTraces = false) {b L : Nat} {xs : Fn} (hX : va_X b L xs s s.heap) (hb : b < s.heap.size ∧ ¬ A b) {cb sb : Nat} (hk1 : ∀ k, k ≤ 1393 → cb + k ≤ 642188) (hk2 : ∀ k, k ≤ 8364 → sb + k ≤ 7174904) {h0 k0 : Nat} {hs ks : Nat → Nat} {ta tb : TAd} (v0 : OBv) (v1 : OBv) (x3 : Int32) (x5 : Int32) {q : (Bool × Int32 × OBv × OBv) ⊕ ((Bool × OBv × OBv))} (hf : f_L_law_B34_b221 L xs v0 v1 x3 x5 = some q) (K1 : ∀ s' : Bool × Int32 × OBv × OBv, q = .inl s' → GW p l e rmL_law s m args below meth c A D 11 (cb + 1393) (sb + 8364) Q 34 [(0, .ref b), (1, .ref h0), (2, .ref k0), (3, .int x3), (4, .int (b2i s'.1)), (5, .int s'.2.1)] [] [OB cy h0 hs ta s'.2.2.1, OB cy k0 ks tb s'.2.2.2]) (K2 : ∀ e' : Bool × OBv × OBv, q = .inr (e') → GW p l e rmL_law s m args below meth c A D 11 (cb + 1393) (sb + 8364) Q 234 [(4, .int (b2i e'.1))] [] [OB cy h0 hs ta e'.2.1, OB cy k0 ks tb e'.2.2]) : GW p l e rmL_law s m args below meth c A D 11 (cb + 1393) (sb + 8364) Q 221 [(0, .ref b), (1, .ref h0), (2, .ref k0), (3, .int x3), (5, .int x5)] [] [OB cy h0 hs ta v0, OB cy k0 ks tb v1] := by
  unfold f_L_law_B34_b221 at hf
  refine g_iconst X (1 : Int32) dL_law_221 (by decide) ?_
  refine g_goto X 226 dL_law_222 (by decide) ?_
  exact j_L_law_B34_b226 X hr hfl hX hb hk1 hk2 v0 v1 x3 x5 true hf K1 K2
def f_L_law_B34_b185 (L : Nat) (xs : Fn) (v0 : OBv) (v1 : OBv) (x3 : Int32) (x5 : Int32) (x6 : Int32) (x9 : Int32) (x10 : Int32) : Option ((Bool × Int32 × OBv × OBv) ⊕ ((Bool × OBv × OBv))) :=
  (f_L_weighs v0 v1 x9 x10).bind (fun q1387 => if (b2i q1387.1) = 0 then f_L_law_B34_b225 L xs q1387.2.1 q1387.2.2 x3 x5 else if 0 < (x5 - x5 / (4 : Int32) * (4 : Int32)) then f_L_law_B34_b221 L xs q1387.2.1 q1387.2.2 x3 x5 else (f_L_arms q1387.2.1 q1387.2.2 x9 x10 (x6 / (11 : Int32))).bind (fun q1388 => if (b2i q1388.1) = 0 then f_L_law_B34_b225 L xs q1388.2.1 q1388.2.2 x3 x5 else f_L_law_B34_b221 L xs q1388.2.1 q1388.2.2 x3 x5))
set_option maxRecDepth 100000 in
set_option maxHeartbeats 4000000 in
theorem j_L_law_B34_b185 {p : Program} {l : Launch} {e : Env} {s : State} {m : MethodId} {args : Array Value} {below : List Frame} {meth : Method} {c : Code} {A : Nat → Prop} {D : va_G} {cy : Nat → ClassId} {ad : (Nat → Nat) × (Nat → Nat)} {Q : State → Prop} (X : gK p s m args meth c A D cy ad cL_law 11 RL) (hr : meth.sig.returnType = some .boolean) (hfl : l.stackTraces = false) {b L : Nat} {xs : Fn} (hX : va_X b L xs s s.heap) (hb : b < s.heap.size ∧ ¬ A b) {cb sb : Nat} (hk1 : ∀ k, k ≤ 1393 → cb + k ≤ 642188) (hk2 : ∀ k, k ≤ 8364 → sb + k ≤ 7174904) {h0 k0 : Nat} {hs ks : Nat → Nat} {ta tb : TAd} (v0 : OBv) (v1 : OBv) (x3 : Int32) (x5 : Int32) (x6 : Int32) (x9 : Int32) (x10 : Int32) {q : (Bool × Int32 × OBv × OBv) ⊕ ((Bool × OBv × OBv))} (hf : f_L_law_B34_b185 L xs v0 v1 x3 x5 x6 x9 x10 = some q) (K1 : ∀ s' : Bool × Int32 × OBv × OBv, q = .inl s' → GW p l e rmL_law s m args below meth c A D 11 (cb + 1393) (sb + 8364) Q 34 [(0, .ref b), (1, .ref h0), (2, .ref k0), (3, .int x3), (4, .int (b2i s'.1)), (5, .int s'.2.1)] [] [OB cy h0 hs ta s'.2.2.1, OB cy k0 ks tb s'.2.2.2]) (K2 : ∀ e' : Bool × OBv × OBv, q = .inr (e') → GW p l e rmL_law s m args below meth c A D 11 (cb + 1393) (sb + 8364) Q 234 [(4, .int (b2i e'.1))] [] [OB cy h0 hs ta e'.2.1, OB cy k0 ks tb e'.2.2]) : GW p l e rmL_law s m args below meth c A D 11 (cb + 869) (sb + 5220) Q 185 [(0, .ref b), (1, .ref h0), (2, .ref k0), (3, .int x3), (5, .int x5), (6, .int x6), (9, .int x9), (10, .int x10)] [] [OB cy h0 hs ta v0, OB cy k0 ks tb v1] := by
  unfold f_L_law_B34_b185 at hf
  refine g_aload_n X dL_law_185 1 rfl rfl ?_
  refine g_aload_n X dL_law_186 2 rfl rfl ?_
  refine g_iload X dL_law_187 6 rfl ?_
  refine g_iload X dL_law_189 7 rfl ?_
  obtain ⟨q1387, hq1387, hf⟩ := obind hf
  refine g_callS (gs' := [OB cy h0 hs ta q1387.2.1, OB cy k0 ks tb q1387.2.2]) (rest := []) X dL_law_191 (c_L_weighs l D cy ad h0 hs ta k0 ks tb v0 v1 x9 x10 hfl hq1387) mf_L_weighs ms_L_weighs lkm_L_194 ⟨(Nat.le_of_ble_eq_true rfl), (Nat.le_of_ble_eq_true rfl), hk1 1353 (by decide), hk2 8124 (by decide)⟩ [0, 1] _ (by decide : [0, 1].Perm (List.range 2)) rfl (by decide : [0, 1].Perm (List.range 2)) rfl (Nat.le_of_ble_eq_true rfl) rfl ?_
  refine g_cs (c' := (cb + 1353)) (s' := (sb + 8124)) rfl rfl ?_
  refine g_if_eq X 225 dL_law_194 (by decide) (fun c1391 => ?_) (fun c1391 => ?_)
  · have hf := opos c1391 hf
    refine g_widen (k := (cb + 1393)) (n := (sb + 8364)) (by omega) (by omega) ?_
    refine g_sub [0, 1, 2, 3, 4] (lv' := [(0, .ref b), (1, .ref h0), (2, .ref k0), (3, .int x3), (5, .int x5)]) rfl ?_
    exact j_L_law_B34_b225 X hr hfl hX hb hk1 hk2 q1387.2.1 q1387.2.2 x3 x5 hf K1 K2
  · have hf := oneg c1391 hf
    refine g_iload X dL_law_197 4 rfl ?_
    refine g_iconst X (4 : Int32) dL_law_199 (by decide) ?_
    refine g_irem X dL_law_200 (by decide) ?_
    refine g_if_gt X 221 dL_law_201 (by decide) (fun c1390 => ?_) (fun c1390 => ?_)
    · have hf := opos c1390 hf
      refine g_widen (k := (cb + 1393)) (n := (sb + 8364)) (by omega) (by omega) ?_
      refine g_sub [0, 1, 2, 3, 4] (lv' := [(0, .ref b), (1, .ref h0), (2, .ref k0), (3, .int x3), (5, .int x5)]) rfl ?_
      exact j_L_law_B34_b221 X hr hfl hX hb hk1 hk2 q1387.2.1 q1387.2.2 x3 x5 hf K1 K2
    · have hf := oneg c1390 hf
      refine g_aload_n X dL_law_204 1 rfl rfl ?_
      refine g_aload_n X dL_law_205 2 rfl rfl ?_
      refine g_iload X dL_law_206 6 rfl ?_
      refine g_iload X dL_law_208 7 rfl ?_
      refine g_iload X dL_law_210 5 rfl ?_
      refine g_bipush X (11 : Int32) dL_law_212 (by decide) ?_
      refine g_idiv X dL_law_214 (by decide) ?_
      obtain ⟨q1388, hq1388, hf⟩ := obind hf
      refine g_callS (gs' := [OB cy h0 hs ta q1388.2.1, OB cy k0 ks tb q1388.2.2]) (rest := []) X dL_law_215 (c_L_arms l D cy ad h0 hs ta k0 ks tb q1387.2.1 q1387.2.2 x9 x10 (x6 / (11 : Int32)) hfl hq1388) mf_L_arms ms_L_arms lkm_L_198 ⟨(Nat.le_of_ble_eq_true rfl), (Nat.le_of_ble_eq_true rfl), hk1 1393 (by decide), hk2 8364 (by decide)⟩ [0, 1] _ (by decide : [0, 1].Perm (List.range 2)) rfl (by decide : [0, 1].Perm (List.range 2)) rfl (Nat.le_of_ble_eq_true rfl) rfl ?_
      refine g_cs (c' := (cb + 1393)) (s' := (sb + 8364)) rfl rfl ?_
      refine g_if_eq X 225 dL_law_218 (by decide) (fun c1389 => ?_) (fun c1389 => ?_)
      · have hf := opos c1389 hf
        refine g_sub [0, 1, 2, 3, 4] (lv' := [(0, .ref b), (1, .ref h0), (2, .ref k0), (3, .int x3), (5, .int x5)]) rfl ?_
        exact j_L_law_B34_b225 X hr hfl hX hb hk1 hk2 q1388.2.1 q1388.2.2 x3 x5 hf K1 K2
      · have hf := oneg c1389 hf
        refine g_sub [0, 1, 2, 3, 4] (lv' := [(0, .ref b), (1, .ref h0), (2, .ref k0), (3, .int x3), (5, .int x5)]) rfl ?_
        exact j_L_law_B34_b221 X hr hfl hX hb hk1 hk2 q1388.2.1 q1388.2.2 x3 x5 hf K1 K2
def f_L_law_B34_b103 (L : Nat) (xs : Fn) (v0 : OBv) (v1 : OBv) (x3 : Int32) (x5 : Int32) (x6 : Int32) (x7 : Int32) (x9 : Int32) (x10 : Int32) : Option ((Bool × Int32 × OBv × OBv) ⊕ ((Bool × OBv × OBv))) :=
  (f_L_refuses v1 (x6 - x6 / (100000 : Int32) * (100000 : Int32))).bind (fun q1382 => if (b2i q1382.1) = 0 then f_L_law_B34_b225 L xs v0 q1382.2 x3 x5 else (f_L_act q1382.2 x6).bind (fun q1383 => if q1383.1 = x7 then (f_L_refuses q1383.2 (x6 - x6 / (1000 : Int32) * (1000 : Int32))).bind (fun q1384 => if (b2i q1384.1) = 0 then f_L_law_B34_b225 L xs v0 q1384.2 x3 x5 else (f_L_alike v0 q1384.2 (x6 - x6 / (5000 : Int32) * (5000 : Int32))).bind (fun q1385 => if (b2i q1385.1) = 0 then f_L_law_B34_b225 L xs q1385.2.1 q1385.2.2 x3 x5 else if (x5 - x5 / (2 : Int32) * (2 : Int32)) = 0 then (f_L_holds q1385.2.1 (x6 / (3 : Int32))).bind (fun q1393 => if (b2i q1393.1) = 0 then f_L_law_B34_b225 L xs q1393.2 q1385.2.2 x3 x5 else f_L_law_B34_b185 L xs q1393.2 q1385.2.2 x3 x5 x6 x9 x10) else (f_L_holds q1385.2.2 (x6 / (5 : Int32))).bind (fun q1386 => if (b2i q1386.1) = 0 then f_L_law_B34_b225 L xs q1385.2.1 q1386.2 x3 x5 else f_L_law_B34_b185 L xs q1385.2.1 q1386.2 x3 x5 x6 x9 x10))) else f_L_law_B34_b225 L xs v0 q1383.2 x3 x5))
set_option maxRecDepth 100000 in
set_option maxHeartbeats 4000000 in
theorem j_L_law_B34_b103 {p : Program} {l : Launch} {e : Env} {s : State} {m : MethodId} {args : Array Value} {below : List Frame} {meth : Method} {c : Code} {A : Nat → Prop} {D : va_G} {cy : Nat → ClassId} {ad : (Nat → Nat) × (Nat → Nat)} {Q : State → Prop} (X : gK p s m args meth c A D cy ad cL_law 11 RL) (hr : meth.sig.returnType = some .boolean) (hfl : l.stackTraces = false) {b L : Nat} {xs : Fn} (hX : va_X b L xs s s.heap) (hb : b < s.heap.size ∧ ¬ A b) {cb sb : Nat} (hk1 : ∀ k, k ≤ 1393 → cb + k ≤ 642188) (hk2 : ∀ k, k ≤ 8364 → sb + k ≤ 7174904) {h0 k0 : Nat} {hs ks : Nat → Nat} {ta tb : TAd} (v0 : OBv) (v1 : OBv) (x3 : Int32) (x5 : Int32) (x6 : Int32) (x7 : Int32) (x9 : Int32) (x10 : Int32) {q : (Bool × Int32 × OBv × OBv) ⊕ ((Bool × OBv × OBv))} (hf : f_L_law_B34_b103 L xs v0 v1 x3 x5 x6 x7 x9 x10 = some q) (K1 : ∀ s' : Bool × Int32 × OBv × OBv, q = .inl s' → GW p l e rmL_law s m args below meth c A D 11 (cb + 1393) (sb + 8364) Q 34 [(0, .ref b), (1, .ref h0), (2, .ref k0), (3, .int x3), (4, .int (b2i s'.1)), (5, .int s'.2.1)] [] [OB cy h0 hs ta s'.2.2.1, OB cy k0 ks tb s'.2.2.2]) (K2 : ∀ e' : Bool × OBv × OBv, q = .inr (e') → GW p l e rmL_law s m args below meth c A D 11 (cb + 1393) (sb + 8364) Q 234 [(4, .int (b2i e'.1))] [] [OB cy h0 hs ta e'.2.1, OB cy k0 ks tb e'.2.2]) : GW p l e rmL_law s m args below meth c A D 11 (cb + 8) (sb + 48) Q 103 [(0, .ref b), (1, .ref h0), (2, .ref k0), (3, .int x3), (5, .int x5), (6, .int x6), (7, .int x7), (9, .int x9), (10, .int x10)] [] [OB cy h0 hs ta v0, OB cy k0 ks tb v1] := by
  unfold f_L_law_B34_b103 at hf
  refine g_aload_n X dL_law_103 2 rfl rfl ?_
  refine g_iload X dL_law_104 5 rfl ?_
  refine g_ldc X lkc_L_182 dL_law_106 ?_
  refine g_irem X dL_law_108 (by decide) ?_
  obtain ⟨q1382, hq1382, hf⟩ := obind hf
  refine g_callS (gs' := [OB cy h0 hs ta v0, OB cy k0 ks tb q1382.2]) (rest := []) X dL_law_109 (c_L_refuses l D cy ad k0 ks tb v1 (x6 - x6 / (100000 : Int32) * (100000 : Int32)) hfl hq1382) mf_L_refuses ms_L_refuses lkm_L_183 ⟨(Nat.le_of_ble_eq_true rfl), (Nat.le_of_ble_eq_true rfl), hk1 60 (by decide), hk2 360 (by decide)⟩ [1, 0] _ (by decide : [1, 0].Perm (List.range 2)) rfl (by decide : [1, 0].Perm (List.range 2)) rfl (Nat.le_of_ble_eq_true rfl) rfl ?_
  refine g_cs (c' := (cb + 60)) (s' := (sb + 360)) rfl rfl ?_
  refine g_if_eq X 225 dL_law_112 (by decide) (fun c1399 => ?_) (fun c1399 => ?_)
  · have hf := opos c1399 hf
    refine g_widen (k := (cb + 1393)) (n := (sb + 8364)) (by omega) (by omega) ?_
    refine g_sub [0, 1, 2, 3, 4] (lv' := [(0, .ref b), (1, .ref h0), (2, .ref k0), (3, .int x3), (5, .int x5)]) rfl ?_
    exact j_L_law_B34_b225 X hr hfl hX hb hk1 hk2 v0 q1382.2 x3 x5 hf K1 K2
  · have hf := oneg c1399 hf
    refine g_aload_n X dL_law_115 2 rfl rfl ?_
    refine g_iload X dL_law_116 5 rfl ?_
    obtain ⟨q1383, hq1383, hf⟩ := obind hf
    refine g_callS (gs' := [OB cy h0 hs ta v0, OB cy k0 ks tb q1383.2]) (rest := []) X dL_law_118 (c_L_act l D cy ad k0 ks tb q1382.2 x6 hfl hq1383) mf_L_act ms_L_act lkm_L_179 ⟨(Nat.le_of_ble_eq_true rfl), (Nat.le_of_ble_eq_true rfl), hk1 66 (by decide), hk2 396 (by decide)⟩ [1, 0] _ (by decide : [1, 0].Perm (List.range 2)) rfl (by decide : [1, 0].Perm (List.range 2)) rfl (Nat.le_of_ble_eq_true rfl) rfl ?_
    refine g_cs (c' := (cb + 66)) (s' := (sb + 396)) rfl rfl ?_
    refine g_iload X dL_law_121 6 rfl ?_
    refine g_icmp_ne X 225 dL_law_123 (by decide) (fun c1398 => ?_) (fun c1398 => ?_)
    · have hf := oneg c1398 hf
      refine g_widen (k := (cb + 1393)) (n := (sb + 8364)) (by omega) (by omega) ?_
      refine g_sub [0, 1, 2, 3, 4] (lv' := [(0, .ref b), (1, .ref h0), (2, .ref k0), (3, .int x3), (5, .int x5)]) rfl ?_
      exact j_L_law_B34_b225 X hr hfl hX hb hk1 hk2 v0 q1383.2 x3 x5 hf K1 K2
    · have hf := opos c1398 hf
      refine g_aload_n X dL_law_126 2 rfl rfl ?_
      refine g_iload X dL_law_127 5 rfl ?_
      refine g_sipush X (1000 : Int32) dL_law_129 (by decide) ?_
      refine g_irem X dL_law_132 (by decide) ?_
      obtain ⟨q1384, hq1384, hf⟩ := obind hf
      refine g_callS (gs' := [OB cy h0 hs ta v0, OB cy k0 ks tb q1384.2]) (rest := []) X dL_law_133 (c_L_refuses l D cy ad k0 ks tb q1383.2 (x6 - x6 / (1000 : Int32) * (1000 : Int32)) hfl hq1384) mf_L_refuses ms_L_refuses lkm_L_183 ⟨(Nat.le_of_ble_eq_true rfl), (Nat.le_of_ble_eq_true rfl), hk1 118 (by decide), hk2 708 (by decide)⟩ [1, 0] _ (by decide : [1, 0].Perm (List.range 2)) rfl (by decide : [1, 0].Perm (List.range 2)) rfl (Nat.le_of_ble_eq_true rfl) rfl ?_
      refine g_cs (c' := (cb + 118)) (s' := (sb + 708)) rfl rfl ?_
      refine g_if_eq X 225 dL_law_136 (by decide) (fun c1397 => ?_) (fun c1397 => ?_)
      · have hf := opos c1397 hf
        refine g_widen (k := (cb + 1393)) (n := (sb + 8364)) (by omega) (by omega) ?_
        refine g_sub [0, 1, 2, 3, 4] (lv' := [(0, .ref b), (1, .ref h0), (2, .ref k0), (3, .int x3), (5, .int x5)]) rfl ?_
        exact j_L_law_B34_b225 X hr hfl hX hb hk1 hk2 v0 q1384.2 x3 x5 hf K1 K2
      · have hf := oneg c1397 hf
        refine g_aload_n X dL_law_139 1 rfl rfl ?_
        refine g_aload_n X dL_law_140 2 rfl rfl ?_
        refine g_iload X dL_law_141 5 rfl ?_
        refine g_sipush X (5000 : Int32) dL_law_143 (by decide) ?_
        refine g_irem X dL_law_146 (by decide) ?_
        obtain ⟨q1385, hq1385, hf⟩ := obind hf
        refine g_callS (gs' := [OB cy h0 hs ta q1385.2.1, OB cy k0 ks tb q1385.2.2]) (rest := []) X dL_law_147 (c_L_alike l D cy ad h0 hs ta k0 ks tb v0 q1384.2 (x6 - x6 / (5000 : Int32) * (5000 : Int32)) hfl hq1385) mf_L_alike ms_L_alike lkm_L_187 ⟨(Nat.le_of_ble_eq_true rfl), (Nat.le_of_ble_eq_true rfl), hk1 456 (by decide), hk2 2736 (by decide)⟩ [0, 1] _ (by decide : [0, 1].Perm (List.range 2)) rfl (by decide : [0, 1].Perm (List.range 2)) rfl (Nat.le_of_ble_eq_true rfl) rfl ?_
        refine g_cs (c' := (cb + 456)) (s' := (sb + 2736)) rfl rfl ?_
        refine g_if_eq X 225 dL_law_150 (by decide) (fun c1396 => ?_) (fun c1396 => ?_)
        · have hf := opos c1396 hf
          refine g_widen (k := (cb + 1393)) (n := (sb + 8364)) (by omega) (by omega) ?_
          refine g_sub [0, 1, 2, 3, 4] (lv' := [(0, .ref b), (1, .ref h0), (2, .ref k0), (3, .int x3), (5, .int x5)]) rfl ?_
          exact j_L_law_B34_b225 X hr hfl hX hb hk1 hk2 q1385.2.1 q1385.2.2 x3 x5 hf K1 K2
        · have hf := oneg c1396 hf
          refine g_iload X dL_law_153 4 rfl ?_
          refine g_iconst X (2 : Int32) dL_law_155 (by decide) ?_
          refine g_irem X dL_law_156 (by decide) ?_
          refine g_if_ne X 174 dL_law_157 (by decide) (fun c1395 => ?_) (fun c1395 => ?_)
          · have hf := oneg c1395 hf
            refine g_aload_n X dL_law_174 2 rfl rfl ?_
            refine g_iload X dL_law_175 5 rfl ?_
            refine g_iconst X (5 : Int32) dL_law_177 (by decide) ?_
            refine g_idiv X dL_law_178 (by decide) ?_
            obtain ⟨q1386, hq1386, hf⟩ := obind hf
            refine g_callS (gs' := [OB cy h0 hs ta q1385.2.1, OB cy k0 ks tb q1386.2]) (rest := []) X dL_law_179 (c_L_holds l D cy ad k0 ks tb q1385.2.2 (x6 / (5 : Int32)) hfl hq1386) mf_L_holds ms_L_holds lkm_L_191 ⟨(Nat.le_of_ble_eq_true rfl), (Nat.le_of_ble_eq_true rfl), hk1 869 (by decide), hk2 5220 (by decide)⟩ [1, 0] _ (by decide : [1, 0].Perm (List.range 2)) rfl (by decide : [1, 0].Perm (List.range 2)) rfl (Nat.le_of_ble_eq_true rfl) rfl ?_
            refine g_cs (c' := (cb + 869)) (s' := (sb + 5220)) rfl rfl ?_
            refine g_if_eq X 225 dL_law_182 (by decide) (fun c1392 => ?_) (fun c1392 => ?_)
            · have hf := opos c1392 hf
              refine g_widen (k := (cb + 1393)) (n := (sb + 8364)) (by omega) (by omega) ?_
              refine g_sub [0, 1, 2, 3, 4] (lv' := [(0, .ref b), (1, .ref h0), (2, .ref k0), (3, .int x3), (5, .int x5)]) rfl ?_
              exact j_L_law_B34_b225 X hr hfl hX hb hk1 hk2 q1385.2.1 q1386.2 x3 x5 hf K1 K2
            · have hf := oneg c1392 hf
              refine g_sub [0, 1, 2, 3, 4, 5, 7, 8] (lv' := [(0, .ref b), (1, .ref h0), (2, .ref k0), (3, .int x3), (5, .int x5), (6, .int x6), (9, .int x9), (10, .int x10)]) rfl ?_
              exact j_L_law_B34_b185 X hr hfl hX hb hk1 hk2 q1385.2.1 q1386.2 x3 x5 x6 x9 x10 hf K1 K2
          · have hf := opos c1395 hf
            refine g_aload_n X dL_law_160 1 rfl rfl ?_
            refine g_iload X dL_law_161 5 rfl ?_
            refine g_iconst X (3 : Int32) dL_law_163 (by decide) ?_
            refine g_idiv X dL_law_164 (by decide) ?_
            obtain ⟨q1393, hq1393, hf⟩ := obind hf
            refine g_callS (gs' := [OB cy h0 hs ta q1393.2, OB cy k0 ks tb q1385.2.2]) (rest := []) X dL_law_165 (c_L_holds l D cy ad h0 hs ta q1385.2.1 (x6 / (3 : Int32)) hfl hq1393) mf_L_holds ms_L_holds lkm_L_191 ⟨(Nat.le_of_ble_eq_true rfl), (Nat.le_of_ble_eq_true rfl), hk1 869 (by decide), hk2 5220 (by decide)⟩ [0, 1] _ (by decide : [0, 1].Perm (List.range 2)) rfl (by decide : [0, 1].Perm (List.range 2)) rfl (Nat.le_of_ble_eq_true rfl) rfl ?_
            refine g_cs (c' := (cb + 869)) (s' := (sb + 5220)) rfl rfl ?_
            refine g_if_eq X 225 dL_law_168 (by decide) (fun c1394 => ?_) (fun c1394 => ?_)
            · have hf := opos c1394 hf
              refine g_widen (k := (cb + 1393)) (n := (sb + 8364)) (by omega) (by omega) ?_
              refine g_sub [0, 1, 2, 3, 4] (lv' := [(0, .ref b), (1, .ref h0), (2, .ref k0), (3, .int x3), (5, .int x5)]) rfl ?_
              exact j_L_law_B34_b225 X hr hfl hX hb hk1 hk2 q1393.2 q1385.2.2 x3 x5 hf K1 K2
            · have hf := oneg c1394 hf
              refine g_goto X 185 dL_law_171 (by decide) ?_
              refine g_sub [0, 1, 2, 3, 4, 5, 7, 8] (lv' := [(0, .ref b), (1, .ref h0), (2, .ref k0), (3, .int x3), (5, .int x5), (6, .int x6), (9, .int x9), (10, .int x10)]) rfl ?_
              exact j_L_law_B34_b185 X hr hfl hX hb hk1 hk2 q1393.2 q1385.2.2 x3 x5 x6 x9 x10 hf K1 K2
def f_L_law_B34 (L : Nat) (xs : Fn) (x3 : Int32) (z : Bool × Int32 × OBv × OBv) : Option ((Bool × Int32 × OBv × OBv) ⊕ ((Bool × OBv × OBv))) :=
  if x3 ≤ z.2.1 then some (.inr ((z.1, z.2.2.1, z.2.2.2))) else if (b2i z.1) = 0 then some (.inr ((z.1, z.2.2.1, z.2.2.2))) else (f_L_cell L xs ((1 : Int32) + z.2.1)).bind (fun q1379 => (f_L_act z.2.2.1 q1379).bind (fun q1380 => (f_O_call q1380.2 (2 : Int32) (0 : Int32) (0 : Int32) (0 : Int32)).bind (fun q1381 => f_L_law_B34_b103 L xs q1381.2 z.2.2.2 x3 z.2.1 q1379 q1380.1 ((q1379 / (7 : Int32)) &&& (((1 : Int32) <<< (q1381.1 &&& 31)) - (1 : Int32))) (((q1379 / (28672 : Int32)) &&& (((1 : Int32) <<< (q1381.1 &&& 31)) - (1 : Int32))) &&& (((q1379 / (7 : Int32)) &&& (((1 : Int32) <<< (q1381.1 &&& 31)) - (1 : Int32))) ^^^ (-1 : Int32))))))
set_option maxRecDepth 100000 in
set_option maxHeartbeats 4000000 in
theorem b_L_law_B34 {p : Program} {l : Launch} {e : Env} {s : State} {m : MethodId} {args : Array Value} {below : List Frame} {meth : Method} {c : Code} {A : Nat → Prop} {D : va_G} {cy : Nat → ClassId} {ad : (Nat → Nat) × (Nat → Nat)} {Q : State → Prop} (X : gK p s m args meth c A D cy ad cL_law 11 RL) (hr : meth.sig.returnType = some .boolean) (hfl : l.stackTraces = false) {b L : Nat} {xs : Fn} (hX : va_X b L xs s s.heap) (hb : b < s.heap.size ∧ ¬ A b) {cb sb : Nat} (hk1 : ∀ k, k ≤ 1393 → cb + k ≤ 642188) (hk2 : ∀ k, k ≤ 8364 → sb + k ≤ 7174904) {h0 k0 : Nat} {hs ks : Nat → Nat} {ta tb : TAd} (x3 : Int32) (z : Bool × Int32 × OBv × OBv) {q : (Bool × Int32 × OBv × OBv) ⊕ ((Bool × OBv × OBv))} (hf : f_L_law_B34 L xs x3 z = some q) (K1 : ∀ s' : Bool × Int32 × OBv × OBv, q = .inl s' → GW p l e rmL_law s m args below meth c A D 11 (cb + 1393) (sb + 8364) Q 34 [(0, .ref b), (1, .ref h0), (2, .ref k0), (3, .int x3), (4, .int (b2i s'.1)), (5, .int s'.2.1)] [] [OB cy h0 hs ta s'.2.2.1, OB cy k0 ks tb s'.2.2.2]) (K2 : ∀ e' : Bool × OBv × OBv, q = .inr (e') → GW p l e rmL_law s m args below meth c A D 11 (cb + 1393) (sb + 8364) Q 234 [(4, .int (b2i e'.1))] [] [OB cy h0 hs ta e'.2.1, OB cy k0 ks tb e'.2.2]) : GW p l e rmL_law s m args below meth c A D 11 cb sb Q 34 [(0, .ref b), (1, .ref h0), (2, .ref k0), (3, .int x3), (4, .int (b2i z.1)), (5, .int z.2.1)] [] [OB cy h0 hs ta z.2.2.1, OB cy k0 ks tb z.2.2.2] := by
  unfold f_L_law_B34 at hf
  refine g_iload X dL_law_34 5 rfl ?_
  refine g_iload_n X dL_law_36 3 rfl rfl ?_
  refine g_icmp_ge X 234 dL_law_37 (by decide) (fun c1401 => ?_) (fun c1401 => ?_)
  · have hf := opos c1401 hf
    refine g_widen (k := (cb + 1393)) (n := (sb + 8364)) (by omega) (by omega) ?_
    refine g_sub [4] (lv' := [(4, .int (b2i z.1))]) rfl ?_
    exact K2 (z.1, z.2.2.1, z.2.2.2) (Option.some.inj hf).symm
  · have hf := oneg c1401 hf
    refine g_iload X dL_law_40 4 rfl ?_
    refine g_if_eq X 234 dL_law_42 (by decide) (fun c1400 => ?_) (fun c1400 => ?_)
    · have hf := opos c1400 hf
      refine g_widen (k := (cb + 1393)) (n := (sb + 8364)) (by omega) (by omega) ?_
      refine g_sub [4] (lv' := [(4, .int (b2i z.1))]) rfl ?_
      exact K2 (z.1, z.2.2.1, z.2.2.2) (Option.some.inj hf).symm
    · have hf := oneg c1400 hf
      refine g_aload_n X dL_law_45 0 rfl rfl ?_
      refine g_iconst X (1 : Int32) dL_law_46 (by decide) ?_
      refine g_iload X dL_law_47 5 rfl ?_
      refine g_iadd X dL_law_49 ?_
      obtain ⟨q1379, hq1379, hf⟩ := obind hf
      refine g_callZ (rest := []) X hX hb dL_law_50 (c_L_cell l D cy ad b L xs ((1 : Int32) + z.2.1) hq1379) mf_L_cell ms_L_cell lkm_L_175 ⟨(Nat.le_of_ble_eq_true rfl), (Nat.le_of_ble_eq_true rfl), hk1 0 (by decide), hk2 0 (by decide)⟩ (Nat.le_of_ble_eq_true rfl) rfl ?_
      refine g_cs (c' := cb) (s' := sb) rfl rfl ?_
      refine g_istore (lv' := [(0, .ref b), (1, .ref h0), (2, .ref k0), (3, .int x3), (4, .int (b2i z.1)), (5, .int z.2.1), (6, .int q1379)]) X dL_law_53 [1, 2, 3, 4, 5, 6, 0] (Nat.le_of_ble_eq_true rfl) rfl ?_
      refine g_aload_n X dL_law_55 1 rfl rfl ?_
      refine g_iload X dL_law_56 6 rfl ?_
      obtain ⟨q1380, hq1380, hf⟩ := obind hf
      refine g_callS (gs' := [OB cy h0 hs ta q1380.2, OB cy k0 ks tb z.2.2.2]) (rest := []) X dL_law_58 (c_L_act l D cy ad h0 hs ta z.2.2.1 q1379 hfl hq1380) mf_L_act ms_L_act lkm_L_179 ⟨(Nat.le_of_ble_eq_true rfl), (Nat.le_of_ble_eq_true rfl), hk1 6 (by decide), hk2 36 (by decide)⟩ [0, 1] _ (by decide : [0, 1].Perm (List.range 2)) rfl (by decide : [0, 1].Perm (List.range 2)) rfl (Nat.le_of_ble_eq_true rfl) rfl ?_
      refine g_cs (c' := (cb + 6)) (s' := (sb + 36)) rfl rfl ?_
      refine g_istore (lv' := [(0, .ref b), (1, .ref h0), (2, .ref k0), (3, .int x3), (4, .int (b2i z.1)), (5, .int z.2.1), (6, .int q1379), (7, .int q1380.1)]) X dL_law_61 [1, 2, 3, 4, 5, 6, 7, 0] (Nat.le_of_ble_eq_true rfl) rfl ?_
      refine g_iconst X (1 : Int32) dL_law_63 (by decide) ?_
      refine g_aload_n X dL_law_64 1 rfl rfl ?_
      refine g_iconst X (2 : Int32) dL_law_65 (by decide) ?_
      refine g_iconst X (0 : Int32) dL_law_66 (by decide) ?_
      refine g_iconst X (0 : Int32) dL_law_67 (by decide) ?_
      refine g_iconst X (0 : Int32) dL_law_68 (by decide) ?_
      obtain ⟨q1381, hq1381, hf⟩ := obind hf
      refine g_callS (gs' := [OB cy h0 hs ta q1381.2, OB cy k0 ks tb z.2.2.2]) (rest := [.int (1 : Int32)]) X dL_law_69 (o_L_call l D cy ad h0 hs ta q1380.2 (2 : Int32) (0 : Int32) (0 : Int32) (0 : Int32) hfl hq1381) mf_L_call ms_L_call lkm_L_144 ⟨(Nat.le_of_ble_eq_true rfl), (Nat.le_of_ble_eq_true rfl), hk1 8 (by decide), hk2 48 (by decide)⟩ [0, 1] _ (by decide : [0, 1].Perm (List.range 2)) rfl (by decide : [0, 1].Perm (List.range 2)) rfl (Nat.le_of_ble_eq_true rfl) rfl ?_
      refine g_cs (c' := (cb + 8)) (s' := (sb + 48)) rfl rfl ?_
      refine g_ishl X dL_law_72 ?_
      refine g_iconst X (1 : Int32) dL_law_73 (by decide) ?_
      refine g_isub X dL_law_74 ?_
      refine g_istore (lv' := [(0, .ref b), (1, .ref h0), (2, .ref k0), (3, .int x3), (4, .int (b2i z.1)), (5, .int z.2.1), (6, .int q1379), (7, .int q1380.1), (8, .int (((1 : Int32) <<< (q1381.1 &&& 31)) - (1 : Int32)))]) X dL_law_75 [1, 2, 3, 4, 5, 6, 7, 8, 0] (Nat.le_of_ble_eq_true rfl) rfl ?_
      refine g_iload X dL_law_77 6 rfl ?_
      refine g_bipush X (7 : Int32) dL_law_79 (by decide) ?_
      refine g_idiv X dL_law_81 (by decide) ?_
      refine g_iload X dL_law_82 8 rfl ?_
      refine g_iand X dL_law_84 ?_
      refine g_istore (lv' := [(0, .ref b), (1, .ref h0), (2, .ref k0), (3, .int x3), (4, .int (b2i z.1)), (5, .int z.2.1), (6, .int q1379), (7, .int q1380.1), (8, .int (((1 : Int32) <<< (q1381.1 &&& 31)) - (1 : Int32))), (9, .int ((q1379 / (7 : Int32)) &&& (((1 : Int32) <<< (q1381.1 &&& 31)) - (1 : Int32))))]) X dL_law_85 [1, 2, 3, 4, 5, 6, 7, 8, 9, 0] (Nat.le_of_ble_eq_true rfl) rfl ?_
      refine g_iload X dL_law_87 6 rfl ?_
      refine g_sipush X (28672 : Int32) dL_law_89 (by decide) ?_
      refine g_idiv X dL_law_92 (by decide) ?_
      refine g_iload X dL_law_93 8 rfl ?_
      refine g_iand X dL_law_95 ?_
      refine g_iload X dL_law_96 9 rfl ?_
      refine g_iconst X (-1 : Int32) dL_law_98 (by decide) ?_
      refine g_ixor X dL_law_99 ?_
      refine g_iand X dL_law_100 ?_
      refine g_istore (lv' := [(0, .ref b), (1, .ref h0), (2, .ref k0), (3, .int x3), (4, .int (b2i z.1)), (5, .int z.2.1), (6, .int q1379), (7, .int q1380.1), (8, .int (((1 : Int32) <<< (q1381.1 &&& 31)) - (1 : Int32))), (9, .int ((q1379 / (7 : Int32)) &&& (((1 : Int32) <<< (q1381.1 &&& 31)) - (1 : Int32)))), (10, .int (((q1379 / (28672 : Int32)) &&& (((1 : Int32) <<< (q1381.1 &&& 31)) - (1 : Int32))) &&& (((q1379 / (7 : Int32)) &&& (((1 : Int32) <<< (q1381.1 &&& 31)) - (1 : Int32))) ^^^ (-1 : Int32))))]) X dL_law_101 [1, 2, 3, 4, 5, 6, 7, 8, 9, 10, 0] (Nat.le_of_ble_eq_true rfl) rfl ?_
      refine g_sub [0, 1, 2, 3, 5, 6, 7, 9, 10] (lv' := [(0, .ref b), (1, .ref h0), (2, .ref k0), (3, .int x3), (5, .int z.2.1), (6, .int q1379), (7, .int q1380.1), (9, .int ((q1379 / (7 : Int32)) &&& (((1 : Int32) <<< (q1381.1 &&& 31)) - (1 : Int32)))), (10, .int (((q1379 / (28672 : Int32)) &&& (((1 : Int32) <<< (q1381.1 &&& 31)) - (1 : Int32))) &&& (((q1379 / (7 : Int32)) &&& (((1 : Int32) <<< (q1381.1 &&& 31)) - (1 : Int32))) ^^^ (-1 : Int32))))]) rfl ?_
      exact j_L_law_B34_b103 X hr hfl hX hb hk1 hk2 q1381.2 z.2.2.2 x3 z.2.1 q1379 q1380.1 ((q1379 / (7 : Int32)) &&& (((1 : Int32) <<< (q1381.1 &&& 31)) - (1 : Int32))) (((q1379 / (28672 : Int32)) &&& (((1 : Int32) <<< (q1381.1 &&& 31)) - (1 : Int32))) &&& (((q1379 / (7 : Int32)) &&& (((1 : Int32) <<< (q1381.1 &&& 31)) - (1 : Int32))) ^^^ (-1 : Int32))) hf K1 K2
set_option maxRecDepth 100000 in
set_option maxHeartbeats 4000000 in
theorem w_L_law_B34 {p : Program} {l : Launch} {e : Env} {s : State} {m : MethodId} {args : Array Value} {below : List Frame} {meth : Method} {c : Code} {A : Nat → Prop} {D : va_G} {cy : Nat → ClassId} {ad : (Nat → Nat) × (Nat → Nat)} {Q : State → Prop} (X : gK p s m args meth c A D cy ad cL_law 11 RL) (hr : meth.sig.returnType = some .boolean) (hfl : l.stackTraces = false) {b L : Nat} {xs : Fn} (hX : va_X b L xs s s.heap) (hb : b < s.heap.size ∧ ¬ A b) {h0 k0 : Nat} {hs ks : Nat → Nat} {ta tb : TAd} (x3 : Int32) : ∀ {n : Nat} {cb sb : Nat} {z : Bool × Int32 × OBv × OBv} {q : (Bool × OBv × OBv)} (hf : itl (f_L_law_B34 L xs x3) n z = some q) (h1 : cb + n * 1393 ≤ 642188) (h2 : sb + n * 8364 ≤ 7174904) (K : GW p l e rmL_law s m args below meth c A D 11 (cb + n * 1393) (sb + n * 8364) Q 234 [(4, .int (b2i q.1))] [] [OB cy h0 hs ta q.2.1, OB cy k0 ks tb q.2.2]), GW p l e rmL_law s m args below meth c A D 11 cb sb Q 34 [(0, .ref b), (1, .ref h0), (2, .ref k0), (3, .int x3), (4, .int (b2i z.1)), (5, .int z.2.1)] [] [OB cy h0 hs ta z.2.2.1, OB cy k0 ks tb z.2.2.2] := by
  intro n
  induction n with
  | zero => intro cb sb z q hf; exact nomatch hf
  | succ n ih =>
    intro cb sb z q hf h1 h2 K
    have e1 : cb + 1393 + n * 1393 = cb + (n + 1) * 1393 := by rw [Nat.succ_mul]; omega
    have e2 : sb + 8364 + n * 8364 = sb + (n + 1) * 8364 := by rw [Nat.succ_mul]; omega
    cases hq : f_L_law_B34 L xs x3 z with
    | none => rw [itl, hq] at hf; exact nomatch hf
    | some q9 =>
      rw [itl, hq] at hf
      refine b_L_law_B34 X hr hfl hX hb (fun k hk => by omega) (fun k hk => by omega) x3 z hq (fun s' hs => ?_) (fun e' he => ?_)
      · subst hs
        exact ih hf (by omega) (by omega) (by rw [e1, e2]; exact K)
      · subst he
        cases (Option.some.inj hf)
        exact g_widen (by omega) (by omega) K
