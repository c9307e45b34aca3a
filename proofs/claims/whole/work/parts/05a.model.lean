abbrev rmX8_clear : Room := ({ frames := 0, cells := 0, slots := 0, locals := 0 } : Room)
def f_X8_clear_B2 (z : Int32 × Fn) : Option ((Int32 × Fn) ⊕ ((Fn))) :=
  if (107 : Int32) ≤ z.1 then some (.inr ((z.2))) else if z.1 < 0 ∨ 107 ≤ z.1.toNatClampNeg then none else some (.inl ((z.1 + (1 : Int32)), (upd z.2 z.1.toNatClampNeg (0 : Int32))))
set_option maxRecDepth 100000 in
set_option maxHeartbeats 4000000 in
theorem b_X8_clear_B2 {p : Program} {l : Launch} {e : Env} {s : State} {m : MethodId} {args : Array Value} {below : List Frame} {meth : Method} {c : Code} {A : Nat → Prop} {D : va_G} {cy : Nat → ClassId} {ad : (Nat → Nat) × (Nat → Nat)} {Q : State → Prop} (X : gK p s m args meth c A D cy ad cX8_clear 2 RX8) (hr : meth.sig.returnType = none) {g0 : Nat} (z : Int32 × Fn) {q : (Int32 × Fn) ⊕ ((Fn))} (hf : f_X8_clear_B2 z = some q) (K1 : ∀ s' : Int32 × Fn, q = .inl s' → GW p l e rmX8_clear s m args below meth c A D 2 0 0 Q 2 [(0, .ref g0), (1, .int s'.1)] [] [AI cy 107 g0 s'.2]) (K2 : ∀ e' : Fn, q = .inr (e') → GW p l e rmX8_clear s m args below meth c A D 2 0 0 Q 18 [(0, .ref g0)] [] [AI cy 107 g0 e']) : GW p l e rmX8_clear s m args below meth c A D 2 0 0 Q 2 [(0, .ref g0), (1, .int z.1)] [] [AI cy 107 g0 z.2] := by
  unfold f_X8_clear_B2 at hf
  refine g_iload_n X dX8_clear_2 1 rfl rfl ?_
  refine g_bipush X (107 : Int32) dX8_clear_3 (by decide) ?_
  refine g_icmp_ge X 18 dX8_clear_5 (by decide) (fun c253 => ?_) (fun c253 => ?_)
  · have hf := opos c253 hf
    refine g_sub [0] (lv' := [(0, .ref g0)]) rfl ?_
    exact K2 (z.2) (Option.some.inj hf).symm
  · have hf := oneg c253 hf
    refine g_aload_n X dX8_clear_8 0 rfl rfl ?_
    refine g_iload_n X dX8_clear_9 1 rfl rfl ?_
    refine g_iconst X (0 : Int32) dX8_clear_10 (by decide) ?_
    obtain ⟨n252, hf⟩ := oguard hf
    refine g_iastore (gs' := [AI cy 107 g0 (upd z.2 z.1.toNatClampNeg (0 : Int32))]) X dX8_clear_11 0 0 rfl rfl n252 rfl ?_
    refine g_iinc (lv' := [(0, .ref g0), (1, .int (z.1 + (1 : Int32)))]) (v := (1 : Int32)) X dX8_clear_12 1 rfl (by decide) [1, 0] (Nat.le_of_ble_eq_true rfl) rfl ?_
    refine g_goto X 2 dX8_clear_15 (by decide) ?_
    exact K1 ((z.1 + (1 : Int32)), (upd z.2 z.1.toNatClampNeg (0 : Int32))) (Option.some.inj hf).symm
set_option maxRecDepth 100000 in
set_option maxHeartbeats 4000000 in
theorem w_X8_clear_B2 {p : Program} {l : Launch} {e : Env} {s : State} {m : MethodId} {args : Array Value} {below : List Frame} {meth : Method} {c : Code} {A : Nat → Prop} {D : va_G} {cy : Nat → ClassId} {ad : (Nat → Nat) × (Nat → Nat)} {Q : State → Prop} (X : gK p s m args meth c A D cy ad cX8_clear 2 RX8) (hr : meth.sig.returnType = none) {g0 : Nat} {n : Nat} {z : Int32 × Fn} {q : (Fn)} (hf : itl (f_X8_clear_B2) n z = some q) (K2 : GW p l e rmX8_clear s m args below meth c A D 2 0 0 Q 18 [(0, .ref g0)] [] [AI cy 107 g0 q]) : GW p l e rmX8_clear s m args below meth c A D 2 0 0 Q 2 [(0, .ref g0), (1, .int z.1)] [] [AI cy 107 g0 z.2] :=
  itl_ind (f := f_X8_clear_B2) (I := fun z => GW p l e rmX8_clear s m args below meth c A D 2 0 0 Q 2 [(0, .ref g0), (1, .int z.1)] [] [AI cy 107 g0 z.2]) (J := (fun q => GW p l e rmX8_clear s m args below meth c A D 2 0 0 Q 18 [(0, .ref g0)] [] [AI cy 107 g0 q])) (fun z x h k1 k2 => b_X8_clear_B2 X hr z h (fun s' hs => k1 s' hs) (fun e' he => k2 e' he)) n z q hf K2
def f_X8_clear (w0 : Fn) : Option (Fn) :=
  (itl (f_X8_clear_B2) FU ((0 : Int32), w0)).bind (fun q254 => some (upd (upd (upd q254 (0 : Int32).toNatClampNeg (9 : Int32)) (2 : Int32).toNatClampNeg (10 : Int32)) (3 : Int32).toNatClampNeg (10 : Int32)))
set_option maxRecDepth 100000 in
set_option maxHeartbeats 4000000 in
theorem c_X8_clear (l : Launch) (D : va_G) (cy : Nat → ClassId) (ad : (Nat → Nat) × (Nat → Nat)) (g0 : Nat) (w0 : Fn) {q : Fn} (hf : f_X8_clear w0 = some q) : CM l yX8_clear cX8_clear 2 none rmX8_clear D cy ad [.ref g0] [AI cy 107 g0 w0] none [AI cy 107 g0 q] := by
  refine cm_of (lv0 := [(0, .ref g0)]) (by decide) (Nat.le_of_ble_eq_true rfl) rfl ?_
  intro p e s m args below meth c A X hr hn
  have X : gK p s m args meth c A D cy ad cX8_clear 2 RX8 := X
  unfold f_X8_clear at hf
  refine g_iconst X (0 : Int32) dX8_clear_0 (by decide) ?_
  refine g_istore_n (lv' := [(0, .ref g0), (1, .int (0 : Int32))]) X dX8_clear_1 [1, 0] rfl (Nat.le_of_ble_eq_true rfl) rfl ?_
  obtain ⟨q254, hq254, hf⟩ := obind hf
  refine w_X8_clear_B2 X hr hq254 ?_
  refine g_aload_n X dX8_clear_18 0 rfl rfl ?_
  refine g_iconst X (0 : Int32) dX8_clear_19 (by decide) ?_
  refine g_bipush X (9 : Int32) dX8_clear_20 (by decide) ?_
  refine g_iastore (gs' := [AI cy 107 g0 (upd q254 (0 : Int32).toNatClampNeg (9 : Int32))]) X dX8_clear_22 0 0 rfl rfl (by decide) rfl ?_
  refine g_aload_n X dX8_clear_23 0 rfl rfl ?_
  refine g_iconst X (2 : Int32) dX8_clear_24 (by decide) ?_
  refine g_bipush X (10 : Int32) dX8_clear_25 (by decide) ?_
  refine g_iastore (gs' := [AI cy 107 g0 (upd (upd q254 (0 : Int32).toNatClampNeg (9 : Int32)) (2 : Int32).toNatClampNeg (10 : Int32))]) X dX8_clear_27 0 0 rfl rfl (by decide) rfl ?_
  refine g_aload_n X dX8_clear_28 0 rfl rfl ?_
  refine g_iconst X (3 : Int32) dX8_clear_29 (by decide) ?_
  refine g_bipush X (10 : Int32) dX8_clear_30 (by decide) ?_
  refine g_iastore (gs' := [AI cy 107 g0 (upd (upd (upd q254 (0 : Int32).toNatClampNeg (9 : Int32)) (2 : Int32).toNatClampNeg (10 : Int32)) (3 : Int32).toNatClampNeg (10 : Int32))]) X dX8_clear_32 0 0 rfl rfl (by decide) rfl ?_
  have hf := Option.some.inj hf
  subst hf
  exact g_vret X hr dX8_clear_33
abbrev rmX8_thrown : Room := ({ frames := 0, cells := 0, slots := 0, locals := 0 } : Room)
def f_X8_thrown (v0 : MOv) : Option (Int32) :=
  some v0.1
set_option maxRecDepth 100000 in
set_option maxHeartbeats 4000000 in
theorem c_X8_thrown (l : Launch) (D : va_G) (cy : Nat → ClassId) (ad : (Nat → Nat) × (Nat → Nat)) (h0 h1 h2 h3 h4 h5 h6 h7 h8 : Nat) (v0 : MOv) {q : Int32} (hf : f_X8_thrown v0 = some q) : CM l yX8_thrown cX8_thrown 1 (some .int) rmX8_thrown D cy ad [.ref h0] [MO h0 h1 h2 h3 h4 h5 h6 h7 h8 v0] (some (.int q)) [MO h0 h1 h2 h3 h4 h5 h6 h7 h8 v0] := by
  refine cm_of (lv0 := [(0, .ref h0)]) (by decide) (Nat.le_of_ble_eq_true rfl) rfl ?_
  intro p e s m args below meth c A X hr hn
  have X : gK p s m args meth c A D cy ad cX8_thrown 1 RX8 := X
  unfold f_X8_thrown at hf
  refine g_aload_n X dX8_thrown_0 0 rfl rfl ?_
  refine g_get X dX8_thrown_1 ck_X8 0 0 0 rfl rfl (Nat.le_of_ble_eq_true rfl) lkf_X8_39 rfl ?_
  have hf := Option.some.inj hf
  subst hf
  exact g_iret X hr dX8_thrown_4
abbrev rmX8_refused : Room := ({ frames := 0, cells := 0, slots := 0, locals := 0 } : Room)
def f_X8_refused (v0 : MOv) (p1 : Int32) : Option (Bool × MOv) :=
  if p1 ≤ 0 then some (false, (p1, v0.2.1, v0.2.2.1, v0.2.2.2.1, v0.2.2.2.2.1, v0.2.2.2.2.2)) else some (true, (p1, v0.2.1, v0.2.2.1, v0.2.2.2.1, v0.2.2.2.2.1, v0.2.2.2.2.2))
set_option maxRecDepth 100000 in
set_option maxHeartbeats 4000000 in
theorem c_X8_refused (l : Launch) (D : va_G) (cy : Nat → ClassId) (ad : (Nat → Nat) × (Nat → Nat)) (h0 h1 h2 h3 h4 h5 h6 h7 h8 : Nat) (v0 : MOv) (p1 : Int32) {q : Bool × MOv} (hf : f_X8_refused v0 p1 = some q) : CM l yX8_refused cX8_refused 2 (some .boolean) rmX8_refused D cy ad [.ref h0, .int p1] [MO h0 h1 h2 h3 h4 h5 h6 h7 h8 v0] (some (.int (b2i q.1))) [MO h0 h1 h2 h3 h4 h5 h6 h7 h8 q.2] := by
  refine cm_of (lv0 := [(0, .ref h0), (1, .int p1)]) (by decide) (Nat.le_of_ble_eq_true rfl) rfl ?_
  intro p e s m args below meth c A X hr hn
  have X : gK p s m args meth c A D cy ad cX8_refused 2 RX8 := X
  unfold f_X8_refused at hf
  refine g_aload_n X dX8_refused_0 0 rfl rfl ?_
  refine g_iload_n X dX8_refused_1 1 rfl rfl ?_
  refine g_put (gs' := [MO h0 h1 h2 h3 h4 h5 h6 h7 h8 (p1, v0.2.1, v0.2.2.1, v0.2.2.2.1, v0.2.2.2.2.1, v0.2.2.2.2.2)]) X dX8_refused_2 ck_X8 ct_X8 0 0 0 rfl rfl (Nat.le_of_ble_eq_true rfl) lkf_X8_39 rfl rfl rfl (Nat.le_of_ble_eq_true rfl) rfl ?_
  refine g_iload_n X dX8_refused_5 1 rfl rfl ?_
  refine g_if_le X 13 dX8_refused_6 (by decide) (fun c255 => ?_) (fun c255 => ?_)
  · have hf := opos c255 hf
    refine g_iconst X (0 : Int32) dX8_refused_13 (by decide) ?_
    have hf := Option.some.inj hf
    subst hf
    exact g_zret (b := false) X hr dX8_refused_14
  · have hf := oneg c255 hf
    refine g_iconst X (1 : Int32) dX8_refused_9 (by decide) ?_
    refine g_goto X 14 dX8_refused_10 (by decide) ?_
    have hf := Option.some.inj hf
    subst hf
    exact g_zret (b := true) X hr dX8_refused_14
abbrev rmX8_in : Room := ({ frames := 0, cells := 0, slots := 0, locals := 0 } : Room)
def f_X8_in (p0 : Int64) (p1 : Int64) (p2 : Int64) : Option (Bool) :=
  if (lg_cmp p0 p1) < 0 then some false else if 0 < (lg_cmp p0 p2) then some false else some true
set_option maxRecDepth 100000 in
set_option maxHeartbeats 4000000 in
theorem c_X8_in (l : Launch) (D : va_G) (cy : Nat → ClassId) (ad : (Nat → Nat) × (Nat → Nat)) (p0 : Int64) (p1 : Int64) (p2 : Int64) {q : Bool} (hf : f_X8_in p0 p1 p2 = some q) : CM l yX8_in cX8_in 6 (some .boolean) rmX8_in D cy ad [.long p0, .long p1, .long p2] [] (some (.int (b2i q))) [] := by
  refine cm_of (lv0 := [(0, .long p0), (2, .long p1), (4, .long p2)]) (by decide) (Nat.le_of_ble_eq_true rfl) rfl ?_
  intro p e s m args below meth c A X hr hn
  have X : gK p s m args meth c A D cy ad cX8_in 6 RX8 := X
  unfold f_X8_in at hf
  refine g_lload_n X dX8_in_0 0 rfl rfl ?_
  refine g_lload_n X dX8_in_1 1 rfl rfl ?_
  refine g_lcmp X dX8_in_2 ?_
  refine g_if_lt X 17 dX8_in_3 (by decide) (fun c257 => ?_) (fun c257 => ?_)
  · have hf := opos c257 hf
    refine g_iconst X (0 : Int32) dX8_in_17 (by decide) ?_
    have hf := Option.some.inj hf
    subst hf
    exact g_zret (b := false) X hr dX8_in_18
  · have hf := oneg c257 hf
    refine g_lload_n X dX8_in_6 0 rfl rfl ?_
    refine g_lload X dX8_in_7 2 rfl ?_
    refine g_lcmp X dX8_in_9 ?_
    refine g_if_gt X 17 dX8_in_10 (by decide) (fun c256 => ?_) (fun c256 => ?_)
    · have hf := opos c256 hf
      refine g_iconst X (0 : Int32) dX8_in_17 (by decide) ?_
      have hf := Option.some.inj hf
      subst hf
      exact g_zret (b := false) X hr dX8_in_18
    · have hf := oneg c256 hf
      refine g_iconst X (1 : Int32) dX8_in_13 (by decide) ?_
      refine g_goto X 18 dX8_in_14 (by decide) ?_
      have hf := Option.some.inj hf
      subst hf
      exact g_zret (b := true) X hr dX8_in_18
abbrev rmX8_copyState : Room := ({ frames := 0, cells := 0, slots := 0, locals := 0 } : Room)
def f_X8_copyState_B3 (n0 : Nat) (n1 : Nat) (w0 : Fn) (x1 : Int32) (x3 : Int32) (z : Int32 × Fn) : Option ((Int32 × Fn) ⊕ ((Fn))) :=
  if (107 : Int32) ≤ z.1 then some (.inr ((z.2))) else if (x1 + z.1) < 0 ∨ n0 ≤ (x1 + z.1).toNatClampNeg then none else if (x3 + z.1) < 0 ∨ n1 ≤ (x3 + z.1).toNatClampNeg then none else some (.inl ((z.1 + (1 : Int32)), (upd z.2 (x3 + z.1).toNatClampNeg (w0 (x1 + z.1).toNatClampNeg))))
set_option maxRecDepth 100000 in
set_option maxHeartbeats 4000000 in
theorem b_X8_copyState_B3 {p : Program} {l : Launch} {e : Env} {s : State} {m : MethodId} {args : Array Value} {below : List Frame} {meth : Method} {c : Code} {A : Nat → Prop} {D : va_G} {cy : Nat → ClassId} {ad : (Nat → Nat) × (Nat → Nat)} {Q : State → Prop} (X : gK p s m args meth c A D cy ad cX8_copyState 5 RX8) (hr : meth.sig.returnType = none) {g0 g1 : Nat} (n0 : Nat) (n1 : Nat) (w0 : Fn) (x1 : Int32) (x3 : Int32) (z : Int32 × Fn) {q : (Int32 × Fn) ⊕ ((Fn))} (hf : f_X8_copyState_B3 n0 n1 w0 x1 x3 z = some q) (K1 : ∀ s' : Int32 × Fn, q = .inl s' → GW p l e rmX8_copyState s m args below meth c A D 5 0 0 Q 3 [(0, .ref g0), (1, .int x1), (2, .ref g1), (3, .int x3), (4, .int s'.1)] [] [AI cy n0 g0 w0, AI cy n1 g1 s'.2]) (K2 : ∀ e' : Fn, q = .inr (e') → GW p l e rmX8_copyState s m args below meth c A D 5 0 0 Q 28 [] [] [AI cy n0 g0 w0, AI cy n1 g1 e']) : GW p l e rmX8_copyState s m args below meth c A D 5 0 0 Q 3 [(0, .ref g0), (1, .int x1), (2, .ref g1), (3, .int x3), (4, .int z.1)] [] [AI cy n0 g0 w0, AI cy n1 g1 z.2] := by
  unfold f_X8_copyState_B3 at hf
  refine g_iload X dX8_copyState_3 4 rfl ?_
  refine g_bipush X (107 : Int32) dX8_copyState_5 (by decide) ?_
  refine g_icmp_ge X 28 dX8_copyState_7 (by decide) (fun c264 => ?_) (fun c264 => ?_)
  · have hf := opos c264 hf
    refine g_sub [] (lv' := []) rfl ?_
    exact K2 (z.2) (Option.some.inj hf).symm
  · have hf := oneg c264 hf
    refine g_aload_n X dX8_copyState_10 2 rfl rfl ?_
    refine g_iload_n X dX8_copyState_11 3 rfl rfl ?_
    refine g_iload X dX8_copyState_12 4 rfl ?_
    refine g_iadd X dX8_copyState_14 ?_
    refine g_aload_n X dX8_copyState_15 0 rfl rfl ?_
    refine g_iload_n X dX8_copyState_16 1 rfl rfl ?_
    refine g_iload X dX8_copyState_17 4 rfl ?_
    refine g_iadd X dX8_copyState_19 ?_
    obtain ⟨n262, hf⟩ := oguard hf
    refine g_iaload X dX8_copyState_20 0 0 rfl rfl n262 ?_
    obtain ⟨n263, hf⟩ := oguard hf
    refine g_iastore (gs' := [AI cy n0 g0 w0, AI cy n1 g1 (upd z.2 (x3 + z.1).toNatClampNeg (w0 (x1 + z.1).toNatClampNeg))]) X dX8_copyState_21 1 0 rfl rfl n263 rfl ?_
    refine g_iinc (lv' := [(0, .ref g0), (1, .int x1), (2, .ref g1), (3, .int x3), (4, .int (z.1 + (1 : Int32)))]) (v := (1 : Int32)) X dX8_copyState_22 4 rfl (by decide) [1, 2, 3, 4, 0] (Nat.le_of_ble_eq_true rfl) rfl ?_
    refine g_goto X 3 dX8_copyState_25 (by decide) ?_
    exact K1 ((z.1 + (1 : Int32)), (upd z.2 (x3 + z.1).toNatClampNeg (w0 (x1 + z.1).toNatClampNeg))) (Option.some.inj hf).symm
set_option maxRecDepth 100000 in
set_option maxHeartbeats 4000000 in
theorem w_X8_copyState_B3 {p : Program} {l : Launch} {e : Env} {s : State} {m : MethodId} {args : Array Value} {below : List Frame} {meth : Method} {c : Code} {A : Nat → Prop} {D : va_G} {cy : Nat → ClassId} {ad : (Nat → Nat) × (Nat → Nat)} {Q : State → Prop} (X : gK p s m args meth c A D cy ad cX8_copyState 5 RX8) (hr : meth.sig.returnType = none) {g0 g1 : Nat} (n0 : Nat) (n1 : Nat) (w0 : Fn) (x1 : Int32) (x3 : Int32) {n : Nat} {z : Int32 × Fn} {q : (Fn)} (hf : itl (f_X8_copyState_B3 n0 n1 w0 x1 x3) n z = some q) (K2 : GW p l e rmX8_copyState s m args below meth c A D 5 0 0 Q 28 [] [] [AI cy n0 g0 w0, AI cy n1 g1 q]) : GW p l e rmX8_copyState s m args below meth c A D 5 0 0 Q 3 [(0, .ref g0), (1, .int x1), (2, .ref g1), (3, .int x3), (4, .int z.1)] [] [AI cy n0 g0 w0, AI cy n1 g1 z.2] :=
  itl_ind (f := f_X8_copyState_B3 n0 n1 w0 x1 x3) (I := fun z => GW p l e rmX8_copyState s m args below meth c A D 5 0 0 Q 3 [(0, .ref g0), (1, .int x1), (2, .ref g1), (3, .int x3), (4, .int z.1)] [] [AI cy n0 g0 w0, AI cy n1 g1 z.2]) (J := (fun q => GW p l e rmX8_copyState s m args below meth c A D 5 0 0 Q 28 [] [] [AI cy n0 g0 w0, AI cy n1 g1 q])) (fun z x h k1 k2 => b_X8_copyState_B3 X hr n0 n1 w0 x1 x3 z h (fun s' hs => k1 s' hs) (fun e' he => k2 e' he)) n z q hf K2
def f_X8_copyState (n0 : Nat) (n1 : Nat) (w0 : Fn) (w1 : Fn) (p1 : Int32) (p3 : Int32) : Option (Fn) :=
  (itl (f_X8_copyState_B3 n0 n1 w0 p1 p3) FU ((0 : Int32), w1)).bind (fun q265 => some q265)
set_option maxRecDepth 100000 in
set_option maxHeartbeats 4000000 in
theorem c_X8_copyState (l : Launch) (D : va_G) (cy : Nat → ClassId) (ad : (Nat → Nat) × (Nat → Nat)) (g0 g1 : Nat) (n0 : Nat) (n1 : Nat) (w0 : Fn) (w1 : Fn) (p1 : Int32) (p3 : Int32) {q : Fn} (hf : f_X8_copyState n0 n1 w0 w1 p1 p3 = some q) : CM l yX8_copyState cX8_copyState 5 none rmX8_copyState D cy ad [.ref g0, .int p1, .ref g1, .int p3] [AI cy n0 g0 w0, AI cy n1 g1 w1] none [AI cy n0 g0 w0, AI cy n1 g1 q] := by
  refine cm_of (lv0 := [(0, .ref g0), (1, .int p1), (2, .ref g1), (3, .int p3)]) (by decide) (Nat.le_of_ble_eq_true rfl) rfl ?_
  intro p e s m args below meth c A X hr hn
  have X : gK p s m args meth c A D cy ad cX8_copyState 5 RX8 := X
  unfold f_X8_copyState at hf
  refine g_iconst X (0 : Int32) dX8_copyState_0 (by decide) ?_
  refine g_istore (lv' := [(0, .ref g0), (1, .int p1), (2, .ref g1), (3, .int p3), (4, .int (0 : Int32))]) X dX8_copyState_1 [1, 2, 3, 4, 0] (Nat.le_of_ble_eq_true rfl) rfl ?_
  obtain ⟨q265, hq265, hf⟩ := obind hf
  refine w_X8_copyState_B3 X hr n0 n1 w0 p1 p3 hq265 ?_
  have hf := Option.some.inj hf
  subst hf
  exact g_vret X hr dX8_copyState_28
abbrev rmX8_allOf : Room := ({ frames := 0, cells := 0, slots := 0, locals := 0 } : Room)
def f_X8_allOf (p0 : Int32) : Option (Int32) :=
  some ((3 : Int32) * (((2 : Int32) * p0) + (1 : Int32)))
set_option maxRecDepth 100000 in
set_option maxHeartbeats 4000000 in
theorem c_X8_allOf (l : Launch) (D : va_G) (cy : Nat → ClassId) (ad : (Nat → Nat) × (Nat → Nat)) (p0 : Int32) {q : Int32} (hf : f_X8_allOf p0 = some q) : CM l yX8_allOf cX8_allOf 1 (some .int) rmX8_allOf D cy ad [.int p0] [] (some (.int q)) [] := by
  refine cm_of (lv0 := [(0, .int p0)]) (by decide) (Nat.le_of_ble_eq_true rfl) rfl ?_
  intro p e s m args below meth c A X hr hn
  have X : gK p s m args meth c A D cy ad cX8_allOf 1 RX8 := X
  unfold f_X8_allOf at hf
  refine g_iconst X (3 : Int32) dX8_allOf_0 (by decide) ?_
  refine g_iconst X (2 : Int32) dX8_allOf_1 (by decide) ?_
  refine g_iload_n X dX8_allOf_2 0 rfl rfl ?_
  refine g_imul X dX8_allOf_3 ?_
  refine g_iconst X (1 : Int32) dX8_allOf_4 (by decide) ?_
  refine g_iadd X dX8_allOf_5 ?_
  refine g_imul X dX8_allOf_6 ?_
  have hf := Option.some.inj hf
  subst hf
  exact g_iret X hr dX8_allOf_7
abbrev rmX8_isCoin : Room := ({ frames := 1, cells := 0, slots := 0, locals := 25 } : Room)
def f_X8_isCoin (w0 : Fn) (p1 : Int32) : Option (Bool) :=
  (f_X8_in (p1.toInt64) (0 : Int64) (((w0 (0 : Int32).toNatClampNeg) - (1 : Int32)).toInt64)).bind (fun q268 => some q268)
set_option maxRecDepth 100000 in
set_option maxHeartbeats 4000000 in
theorem c_X8_isCoin (l : Launch) (D : va_G) (cy : Nat → ClassId) (ad : (Nat → Nat) × (Nat → Nat)) (g0 : Nat) (w0 : Fn) (p1 : Int32) {q : Bool} (hf : f_X8_isCoin w0 p1 = some q) : CM l yX8_isCoin cX8_isCoin 2 (some .boolean) rmX8_isCoin D cy ad [.ref g0, .int p1] [AI cy 107 g0 w0] (some (.int (b2i q))) [AI cy 107 g0 w0] := by
  refine cm_of (lv0 := [(0, .ref g0), (1, .int p1)]) (by decide) (Nat.le_of_ble_eq_true rfl) rfl ?_
  intro p e s m args below meth c A X hr hn
  have X : gK p s m args meth c A D cy ad cX8_isCoin 2 RX8 := X
  unfold f_X8_isCoin at hf
  refine g_iload_n X dX8_isCoin_0 1 rfl rfl ?_
  refine g_i2l X dX8_isCoin_1 ?_
  refine g_lconst X (0 : Int64) dX8_isCoin_2 (by decide) ?_
  refine g_aload_n X dX8_isCoin_3 0 rfl rfl ?_
  refine g_iconst X (0 : Int32) dX8_isCoin_4 (by decide) ?_
  refine g_iaload X dX8_isCoin_5 0 0 rfl rfl (by decide) ?_
  refine g_iconst X (1 : Int32) dX8_isCoin_6 (by decide) ?_
  refine g_isub X dX8_isCoin_7 ?_
  refine g_i2l X dX8_isCoin_8 ?_
  obtain ⟨q268, hq268, hf⟩ := obind hf
  refine g_callS (gs' := [AI cy 107 g0 w0]) (rest := []) X dX8_isCoin_9 (c_X8_in l D cy ad (p1.toInt64) (0 : Int64) (((w0 (0 : Int32).toNatClampNeg) - (1 : Int32)).toInt64) hq268) mf_X8_in ms_X8_in lkm_X8_43 ⟨(Nat.le_of_ble_eq_true rfl), (Nat.le_of_ble_eq_true rfl), (Nat.le_of_ble_eq_true rfl), (Nat.le_of_ble_eq_true rfl)⟩ [0] _ (by decide : [0].Perm (List.range 1)) rfl (by decide : [0].Perm (List.range 1)) rfl (Nat.le_of_ble_eq_true rfl) rfl ?_
  have hf := Option.some.inj hf
  subst hf
  exact g_zret (b := q268) X hr dX8_isCoin_12
abbrev rmX8_isCoins : Room := ({ frames := 1, cells := 0, slots := 0, locals := 25 } : Room)
def f_X8_isCoins (p0 : Int32) : Option (Bool) :=
  (f_X8_in (p0.toInt64) (3 : Int64) (12 : Int64)).bind (fun q271 => some q271)
set_option maxRecDepth 100000 in
set_option maxHeartbeats 4000000 in
theorem c_X8_isCoins (l : Launch) (D : va_G) (cy : Nat → ClassId) (ad : (Nat → Nat) × (Nat → Nat)) (p0 : Int32) {q : Bool} (hf : f_X8_isCoins p0 = some q) : CM l yX8_isCoins cX8_isCoins 1 (some .boolean) rmX8_isCoins D cy ad [.int p0] [] (some (.int (b2i q))) [] := by
  refine cm_of (lv0 := [(0, .int p0)]) (by decide) (Nat.le_of_ble_eq_true rfl) rfl ?_
  intro p e s m args below meth c A X hr hn
  have X : gK p s m args meth c A D cy ad cX8_isCoins 1 RX8 := X
  unfold f_X8_isCoins at hf
  refine g_iload_n X dX8_isCoins_0 0 rfl rfl ?_
  refine g_i2l X dX8_isCoins_1 ?_
  refine g_ldc2 X lkl_X8_47 dX8_isCoins_2 ?_
  refine g_ldc2 X lkl_X8_49 dX8_isCoins_5 ?_
  obtain ⟨q271, hq271, hf⟩ := obind hf
  refine g_callS (gs' := []) (rest := []) X dX8_isCoins_8 (c_X8_in l D cy ad (p0.toInt64) (3 : Int64) (12 : Int64) hq271) mf_X8_in ms_X8_in lkm_X8_43 ⟨(Nat.le_of_ble_eq_true rfl), (Nat.le_of_ble_eq_true rfl), (Nat.le_of_ble_eq_true rfl), (Nat.le_of_ble_eq_true rfl)⟩ [] _ (List.Perm.refl _ : ([] : List Nat).Perm (List.range 0)) rfl (List.Perm.refl _ : ([] : List Nat).Perm (List.range 0)) rfl (Nat.le_of_ble_eq_true rfl) rfl ?_
  have hf := Option.some.inj hf
  subst hf
  exact g_zret (b := q271) X hr dX8_isCoins_11
abbrev rmX8_isArms : Room := ({ frames := 1, cells := 0, slots := 0, locals := 25 } : Room)
def f_X8_isArms (p0 : Int32) (p1 : Int32) : Option (Bool) :=
  (f_X8_in (p0.toInt64) (1 : Int64) (20 : Int64)).bind (fun q276 => if (b2i q276) = 0 then some false else (f_X8_in (p1.toInt64) (1 : Int64) (20 : Int64)).bind (fun q277 => if (b2i q277) = 0 then some false else some true))
set_option maxRecDepth 100000 in
set_option maxHeartbeats 4000000 in
theorem c_X8_isArms (l : Launch) (D : va_G) (cy : Nat → ClassId) (ad : (Nat → Nat) × (Nat → Nat)) (p0 : Int32) (p1 : Int32) {q : Bool} (hf : f_X8_isArms p0 p1 = some q) : CM l yX8_isArms cX8_isArms 2 (some .boolean) rmX8_isArms D cy ad [.int p0, .int p1] [] (some (.int (b2i q))) [] := by
  refine cm_of (lv0 := [(0, .int p0), (1, .int p1)]) (by decide) (Nat.le_of_ble_eq_true rfl) rfl ?_
  intro p e s m args below meth c A X hr hn
  have X : gK p s m args meth c A D cy ad cX8_isArms 2 RX8 := X
  unfold f_X8_isArms at hf
  refine g_iload_n X dX8_isArms_0 0 rfl rfl ?_
  refine g_i2l X dX8_isArms_1 ?_
  refine g_lconst X (1 : Int64) dX8_isArms_2 (by decide) ?_
  refine g_ldc2 X lkl_X8_51 dX8_isArms_3 ?_
  obtain ⟨q276, hq276, hf⟩ := obind hf
  refine g_callS (gs' := []) (rest := []) X dX8_isArms_6 (c_X8_in l D cy ad (p0.toInt64) (1 : Int64) (20 : Int64) hq276) mf_X8_in ms_X8_in lkm_X8_43 ⟨(Nat.le_of_ble_eq_true rfl), (Nat.le_of_ble_eq_true rfl), (Nat.le_of_ble_eq_true rfl), (Nat.le_of_ble_eq_true rfl)⟩ [] _ (List.Perm.refl _ : ([] : List Nat).Perm (List.range 0)) rfl (List.Perm.refl _ : ([] : List Nat).Perm (List.range 0)) rfl (Nat.le_of_ble_eq_true rfl) rfl ?_
  refine g_if_eq X 28 dX8_isArms_9 (by decide) (fun c279 => ?_) (fun c279 => ?_)
  · have hf := opos c279 hf
    refine g_iconst X (0 : Int32) dX8_isArms_28 (by decide) ?_
    have hf := Option.some.inj hf
    subst hf
    exact g_zret (b := false) X hr dX8_isArms_29
  · have hf := oneg c279 hf
    refine g_iload_n X dX8_isArms_12 1 rfl rfl ?_
    refine g_i2l X dX8_isArms_13 ?_
    refine g_lconst X (1 : Int64) dX8_isArms_14 (by decide) ?_
    refine g_ldc2 X lkl_X8_51 dX8_isArms_15 ?_
    obtain ⟨q277, hq277, hf⟩ := obind hf
    refine g_callS (gs' := []) (rest := []) X dX8_isArms_18 (c_X8_in l D cy ad (p1.toInt64) (1 : Int64) (20 : Int64) hq277) mf_X8_in ms_X8_in lkm_X8_43 ⟨(Nat.le_of_ble_eq_true rfl), (Nat.le_of_ble_eq_true rfl), (Nat.le_of_ble_eq_true rfl), (Nat.le_of_ble_eq_true rfl)⟩ [] _ (List.Perm.refl _ : ([] : List Nat).Perm (List.range 0)) rfl (List.Perm.refl _ : ([] : List Nat).Perm (List.range 0)) rfl (Nat.le_of_ble_eq_true rfl) rfl ?_
    refine g_if_eq X 28 dX8_isArms_21 (by decide) (fun c278 => ?_) (fun c278 => ?_)
    · have hf := opos c278 hf
      refine g_iconst X (0 : Int32) dX8_isArms_28 (by decide) ?_
      have hf := Option.some.inj hf
      subst hf
      exact g_zret (b := false) X hr dX8_isArms_29
    · have hf := oneg c278 hf
      refine g_iconst X (1 : Int32) dX8_isArms_24 (by decide) ?_
      refine g_goto X 29 dX8_isArms_25 (by decide) ?_
      have hf := Option.some.inj hf
      subst hf
      exact g_zret (b := true) X hr dX8_isArms_29
abbrev rmX8_isSet : Room := ({ frames := 1, cells := 0, slots := 0, locals := 25 } : Room)
def f_X8_isSet (w0 : Fn) (p1 : Int32) : Option (Bool) :=
  (f_X8_in (p1.toInt64) (0 : Int64) ((((1 : Int32) <<< ((w0 (0 : Int32).toNatClampNeg) &&& 31)) - (1 : Int32)).toInt64)).bind (fun q282 => some q282)
set_option maxRecDepth 100000 in
set_option maxHeartbeats 4000000 in
theorem c_X8_isSet (l : Launch) (D : va_G) (cy : Nat → ClassId) (ad : (Nat → Nat) × (Nat → Nat)) (g0 : Nat) (w0 : Fn) (p1 : Int32) {q : Bool} (hf : f_X8_isSet w0 p1 = some q) : CM l yX8_isSet cX8_isSet 2 (some .boolean) rmX8_isSet D cy ad [.ref g0, .int p1] [AI cy 107 g0 w0] (some (.int (b2i q))) [AI cy 107 g0 w0] := by
  refine cm_of (lv0 := [(0, .ref g0), (1, .int p1)]) (by decide) (Nat.le_of_ble_eq_true rfl) rfl ?_
  intro p e s m args below meth c A X hr hn
  have X : gK p s m args meth c A D cy ad cX8_isSet 2 RX8 := X
  unfold f_X8_isSet at hf
  refine g_iload_n X dX8_isSet_0 1 rfl rfl ?_
  refine g_i2l X dX8_isSet_1 ?_
  refine g_lconst X (0 : Int64) dX8_isSet_2 (by decide) ?_
  refine g_iconst X (1 : Int32) dX8_isSet_3 (by decide) ?_
  refine g_aload_n X dX8_isSet_4 0 rfl rfl ?_
  refine g_iconst X (0 : Int32) dX8_isSet_5 (by decide) ?_
  refine g_iaload X dX8_isSet_6 0 0 rfl rfl (by decide) ?_
  refine g_ishl X dX8_isSet_7 ?_
  refine g_iconst X (1 : Int32) dX8_isSet_8 (by decide) ?_
  refine g_isub X dX8_isSet_9 ?_
  refine g_i2l X dX8_isSet_10 ?_
  obtain ⟨q282, hq282, hf⟩ := obind hf
  refine g_callS (gs' := [AI cy 107 g0 w0]) (rest := []) X dX8_isSet_11 (c_X8_in l D cy ad (p1.toInt64) (0 : Int64) ((((1 : Int32) <<< ((w0 (0 : Int32).toNatClampNeg) &&& 31)) - (1 : Int32)).toInt64) hq282) mf_X8_in ms_X8_in lkm_X8_43 ⟨(Nat.le_of_ble_eq_true rfl), (Nat.le_of_ble_eq_true rfl), (Nat.le_of_ble_eq_true rfl), (Nat.le_of_ble_eq_true rfl)⟩ [0] _ (by decide : [0].Perm (List.range 1)) rfl (by decide : [0].Perm (List.range 1)) rfl (Nat.le_of_ble_eq_true rfl) rfl ?_
  have hf := Option.some.inj hf
  subst hf
  exact g_zret (b := q282) X hr dX8_isSet_14
abbrev rmX8_isWeighing : Room := ({ frames := 2, cells := 0, slots := 0, locals := 46 } : Room)
def f_X8_isWeighing (w0 : Fn) (p1 : Int32) (p2 : Int32) : Option (Bool) :=
  (f_X8_isSet w0 p1).bind (fun q287 => if (b2i q287) = 0 then some false else (f_X8_isSet w0 p2).bind (fun q288 => if (b2i q288) = 0 then some false else if (p1 &&& p2) = 0 then if (p1 ||| p2) ≤ 0 then some false else some true else some false))
set_option maxRecDepth 100000 in
set_option maxHeartbeats 4000000 in
theorem c_X8_isWeighing (l : Launch) (D : va_G) (cy : Nat → ClassId) (ad : (Nat → Nat) × (Nat → Nat)) (g0 : Nat) (w0 : Fn) (p1 : Int32) (p2 : Int32) {q : Bool} (hf : f_X8_isWeighing w0 p1 p2 = some q) : CM l yX8_isWeighing cX8_isWeighing 3 (some .boolean) rmX8_isWeighing D cy ad [.ref g0, .int p1, .int p2] [AI cy 107 g0 w0] (some (.int (b2i q))) [AI cy 107 g0 w0] := by
  refine cm_of (lv0 := [(0, .ref g0), (1, .int p1), (2, .int p2)]) (by decide) (Nat.le_of_ble_eq_true rfl) rfl ?_
  intro p e s m args below meth c A X hr hn
  have X : gK p s m args meth c A D cy ad cX8_isWeighing 3 RX8 := X
  unfold f_X8_isWeighing at hf
  refine g_aload_n X dX8_isWeighing_0 0 rfl rfl ?_
  refine g_iload_n X dX8_isWeighing_1 1 rfl rfl ?_
  obtain ⟨q287, hq287, hf⟩ := obind hf
  refine g_callS (gs' := [AI cy 107 g0 w0]) (rest := []) X dX8_isWeighing_2 (c_X8_isSet l D cy ad g0 w0 p1 hq287) mf_X8_isSet ms_X8_isSet lkm_X8_53 ⟨(Nat.le_of_ble_eq_true rfl), (Nat.le_of_ble_eq_true rfl), (Nat.le_of_ble_eq_true rfl), (Nat.le_of_ble_eq_true rfl)⟩ [0] _ (by decide : [0].Perm (List.range 1)) rfl (by decide : [0].Perm (List.range 1)) rfl (Nat.le_of_ble_eq_true rfl) rfl ?_
  refine g_if_eq X 32 dX8_isWeighing_5 (by decide) (fun c292 => ?_) (fun c292 => ?_)
  · have hf := opos c292 hf
    refine g_iconst X (0 : Int32) dX8_isWeighing_32 (by decide) ?_
    have hf := Option.some.inj hf
    subst hf
    exact g_zret (b := false) X hr dX8_isWeighing_33
  · have hf := oneg c292 hf
    refine g_aload_n X dX8_isWeighing_8 0 rfl rfl ?_
    refine g_iload_n X dX8_isWeighing_9 2 rfl rfl ?_
    obtain ⟨q288, hq288, hf⟩ := obind hf
    refine g_callS (gs' := [AI cy 107 g0 w0]) (rest := []) X dX8_isWeighing_10 (c_X8_isSet l D cy ad g0 w0 p2 hq288) mf_X8_isSet ms_X8_isSet lkm_X8_53 ⟨(Nat.le_of_ble_eq_true rfl), (Nat.le_of_ble_eq_true rfl), (Nat.le_of_ble_eq_true rfl), (Nat.le_of_ble_eq_true rfl)⟩ [0] _ (by decide : [0].Perm (List.range 1)) rfl (by decide : [0].Perm (List.range 1)) rfl (Nat.le_of_ble_eq_true rfl) rfl ?_
    refine g_if_eq X 32 dX8_isWeighing_13 (by decide) (fun c291 => ?_) (fun c291 => ?_)
    · have hf := opos c291 hf
      refine g_iconst X (0 : Int32) dX8_isWeighing_32 (by decide) ?_
      have hf := Option.some.inj hf
      subst hf
      exact g_zret (b := false) X hr dX8_isWeighing_33
    · have hf := oneg c291 hf
      refine g_iload_n X dX8_isWeighing_16 1 rfl rfl ?_
      refine g_iload_n X dX8_isWeighing_17 2 rfl rfl ?_
      refine g_iand X dX8_isWeighing_18 ?_
      refine g_if_ne X 32 dX8_isWeighing_19 (by decide) (fun c290 => ?_) (fun c290 => ?_)
      · have hf := oneg c290 hf
        refine g_iconst X (0 : Int32) dX8_isWeighing_32 (by decide) ?_
        have hf := Option.some.inj hf
        subst hf
        exact g_zret (b := false) X hr dX8_isWeighing_33
      · have hf := opos c290 hf
        refine g_iload_n X dX8_isWeighing_22 1 rfl rfl ?_
        refine g_iload_n X dX8_isWeighing_23 2 rfl rfl ?_
        refine g_ior X dX8_isWeighing_24 ?_
        refine g_if_le X 32 dX8_isWeighing_25 (by decide) (fun c289 => ?_) (fun c289 => ?_)
        · have hf := opos c289 hf
          refine g_iconst X (0 : Int32) dX8_isWeighing_32 (by decide) ?_
          have hf := Option.some.inj hf
          subst hf
          exact g_zret (b := false) X hr dX8_isWeighing_33
        · have hf := oneg c289 hf
          refine g_iconst X (1 : Int32) dX8_isWeighing_28 (by decide) ?_
          refine g_goto X 33 dX8_isWeighing_29 (by decide) ?_
          have hf := Option.some.inj hf
          subst hf
          exact g_zret (b := true) X hr dX8_isWeighing_33
abbrev rmX8_bits : Room := ({ frames := 0, cells := 0, slots := 0, locals := 0 } : Room)
def f_X8_bits_B4 (x0 : Int32) (z : Int32 × Int32) : Option ((Int32 × Int32) ⊕ ((Int32))) :=
  if (12 : Int32) ≤ z.2 then some (.inr ((z.1))) else some (.inl ((z.1 + ((x0 >>> (z.2 &&& 31)) &&& (1 : Int32))), (z.2 + (1 : Int32))))
set_option maxRecDepth 100000 in
set_option maxHeartbeats 4000000 in
theorem b_X8_bits_B4 {p : Program} {l : Launch} {e : Env} {s : State} {m : MethodId} {args : Array Value} {below : List Frame} {meth : Method} {c : Code} {A : Nat → Prop} {D : va_G} {cy : Nat → ClassId} {ad : (Nat → Nat) × (Nat → Nat)} {Q : State → Prop} (X : gK p s m args meth c A D cy ad cX8_bits 3 RX8) (hr : meth.sig.returnType = (some .int)) (x0 : Int32) (z : Int32 × Int32) {q : (Int32 × Int32) ⊕ ((Int32))} (hf : f_X8_bits_B4 x0 z = some q) (K1 : ∀ s' : Int32 × Int32, q = .inl s' → GW p l e rmX8_bits s m args below meth c A D 3 0 0 Q 4 [(0, .int x0), (1, .int s'.1), (2, .int s'.2)] [] []) (K2 : ∀ e' : Int32, q = .inr (e') → GW p l e rmX8_bits s m args below meth c A D 3 0 0 Q 24 [(1, .int e')] [] []) : GW p l e rmX8_bits s m args below meth c A D 3 0 0 Q 4 [(0, .int x0), (1, .int z.1), (2, .int z.2)] [] [] := by
  unfold f_X8_bits_B4 at hf
  refine g_iload_n X dX8_bits_4 2 rfl rfl ?_
  refine g_bipush X (12 : Int32) dX8_bits_5 (by decide) ?_
  refine g_icmp_ge X 24 dX8_bits_7 (by decide) (fun c293 => ?_) (fun c293 => ?_)
  · have hf := opos c293 hf
    refine g_sub [1] (lv' := [(1, .int z.1)]) rfl ?_
    exact K2 (z.1) (Option.some.inj hf).symm
  · have hf := oneg c293 hf
    refine g_iload_n X dX8_bits_10 1 rfl rfl ?_
    refine g_iload_n X dX8_bits_11 0 rfl rfl ?_
    refine g_iload_n X dX8_bits_12 2 rfl rfl ?_
    refine g_ishr X dX8_bits_13 ?_
    refine g_iconst X (1 : Int32) dX8_bits_14 (by decide) ?_
    refine g_iand X dX8_bits_15 ?_
    refine g_iadd X dX8_bits_16 ?_
    refine g_istore_n (lv' := [(0, .int x0), (1, .int (z.1 + ((x0 >>> (z.2 &&& 31)) &&& (1 : Int32)))), (2, .int z.2)]) X dX8_bits_17 [1, 0, 2] rfl (Nat.le_of_ble_eq_true rfl) rfl ?_
    refine g_iinc (lv' := [(0, .int x0), (1, .int (z.1 + ((x0 >>> (z.2 &&& 31)) &&& (1 : Int32)))), (2, .int (z.2 + (1 : Int32)))]) (v := (1 : Int32)) X dX8_bits_18 2 rfl (by decide) [1, 2, 0] (Nat.le_of_ble_eq_true rfl) rfl ?_
    refine g_goto X 4 dX8_bits_21 (by decide) ?_
    exact K1 ((z.1 + ((x0 >>> (z.2 &&& 31)) &&& (1 : Int32))), (z.2 + (1 : Int32))) (Option.some.inj hf).symm
set_option maxRecDepth 100000 in
set_option maxHeartbeats 4000000 in
theorem w_X8_bits_B4 {p : Program} {l : Launch} {e : Env} {s : State} {m : MethodId} {args : Array Value} {below : List Frame} {meth : Method} {c : Code} {A : Nat → Prop} {D : va_G} {cy : Nat → ClassId} {ad : (Nat → Nat) × (Nat → Nat)} {Q : State → Prop} (X : gK p s m args meth c A D cy ad cX8_bits 3 RX8) (hr : meth.sig.returnType = (some .int)) (x0 : Int32) {n : Nat} {z : Int32 × Int32} {q : (Int32)} (hf : itl (f_X8_bits_B4 x0) n z = some q) (K2 : GW p l e rmX8_bits s m args below meth c A D 3 0 0 Q 24 [(1, .int q)] [] []) : GW p l e rmX8_bits s m args below meth c A D 3 0 0 Q 4 [(0, .int x0), (1, .int z.1), (2, .int z.2)] [] [] :=
  itl_ind (f := f_X8_bits_B4 x0) (I := fun z => GW p l e rmX8_bits s m args below meth c A D 3 0 0 Q 4 [(0, .int x0), (1, .int z.1), (2, .int z.2)] [] []) (J := (fun q => GW p l e rmX8_bits s m args below meth c A D 3 0 0 Q 24 [(1, .int q)] [] [])) (fun z x h k1 k2 => b_X8_bits_B4 X hr x0 z h (fun s' hs => k1 s' hs) (fun e' he => k2 e' he)) n z q hf K2
def f_X8_bits (p0 : Int32) : Option (Int32) :=
  (itl (f_X8_bits_B4 p0) FU ((0 : Int32), (0 : Int32))).bind (fun q294 => some q294)
set_option maxRecDepth 100000 in
set_option maxHeartbeats 4000000 in
theorem c_X8_bits (l : Launch) (D : va_G) (cy : Nat → ClassId) (ad : (Nat → Nat) × (Nat → Nat)) (p0 : Int32) {q : Int32} (hf : f_X8_bits p0 = some q) : CM l yX8_bits cX8_bits 3 (some .int) rmX8_bits D cy ad [.int p0] [] (some (.int q)) [] := by
  refine cm_of (lv0 := [(0, .int p0)]) (by decide) (Nat.le_of_ble_eq_true rfl) rfl ?_
  intro p e s m args below meth c A X hr hn
  have X : gK p s m args meth c A D cy ad cX8_bits 3 RX8 := X
  unfold f_X8_bits at hf
  refine g_iconst X (0 : Int32) dX8_bits_0 (by decide) ?_
  refine g_istore_n (lv' := [(0, .int p0), (1, .int (0 : Int32))]) X dX8_bits_1 [1, 0] rfl (Nat.le_of_ble_eq_true rfl) rfl ?_
  refine g_iconst X (0 : Int32) dX8_bits_2 (by decide) ?_
  refine g_istore_n (lv' := [(0, .int p0), (1, .int (0 : Int32)), (2, .int (0 : Int32))]) X dX8_bits_3 [1, 2, 0] rfl (Nat.le_of_ble_eq_true rfl) rfl ?_
  obtain ⟨q294, hq294, hf⟩ := obind hf
  refine w_X8_bits_B4 X hr p0 hq294 ?_
  refine g_iload_n X dX8_bits_24 0 rfl rfl ?_
  have hf := Option.some.inj hf
  subst hf
  exact g_iret X hr dX8_bits_25
abbrev rmX8_weight : Room := ({ frames := 1, cells := 0, slots := 0, locals := 22 } : Room)
def f_X8_weight_b47 (y0 : Int32) (y1 : Int32) : Option (Int32) :=
  some (y1 + y0)
set_option maxRecDepth 100000 in
set_option maxHeartbeats 4000000 in
theorem j_X8_weight_b47 {p : Program} {l : Launch} {e : Env} {s : State} {m : MethodId} {args : Array Value} {below : List Frame} {meth : Method} {c : Code} {A : Nat → Prop} {D : va_G} {cy : Nat → ClassId} {ad : (Nat → Nat) × (Nat → Nat)} (X : gK p s m args meth c A D cy ad cX8_weight 3 RX8) (hr : meth.sig.returnType = (some .int)) (y0 : Int32) (y1 : Int32) {q : Int32} (hf : f_X8_weight_b47 y0 y1 = some q) : GW p l e rmX8_weight s m args below meth c A D 3 0 0 (MQ below (cmQ D cy A (some (.int q)) ([] : List va_W).flatten) args s 0 0 A) 47 [] [.int y0, .int y1] [] := by
  unfold f_X8_weight_b47 at hf
  refine g_iadd X dX8_weight_47 ?_
  have hf := Option.some.inj hf
  subst hf
  exact g_iret X hr dX8_weight_48
def f_X8_weight_b24 (x0 : Int32) (x1 : Int32) (y0 : Bool) : Option (Int32) :=
  (f_X8_bits x0).bind (fun q297 => if (b2i y0) = 0 then f_X8_weight_b47 (0 : Int32) ((10 : Int32) * q297) else f_X8_weight_b47 (((2 : Int32) * (x1 - x1 / (2 : Int32) * (2 : Int32))) - (1 : Int32)) ((10 : Int32) * q297))
set_option maxRecDepth 100000 in
set_option maxHeartbeats 4000000 in
theorem j_X8_weight_b24 {p : Program} {l : Launch} {e : Env} {s : State} {m : MethodId} {args : Array Value} {below : List Frame} {meth : Method} {c : Code} {A : Nat → Prop} {D : va_G} {cy : Nat → ClassId} {ad : (Nat → Nat) × (Nat → Nat)} (X : gK p s m args meth c A D cy ad cX8_weight 3 RX8) (hr : meth.sig.returnType = (some .int)) (x0 : Int32) (x1 : Int32) (y0 : Bool) {q : Int32} (hf : f_X8_weight_b24 x0 x1 y0 = some q) : GW p l e rmX8_weight s m args below meth c A D 3 0 0 (MQ below (cmQ D cy A (some (.int q)) ([] : List va_W).flatten) args s 0 0 A) 24 [(0, .int x0), (1, .int x1)] [.int (b2i y0)] [] := by
  unfold f_X8_weight_b24 at hf
  refine g_istore_n (lv' := [(0, .int x0), (1, .int x1), (2, .int (b2i y0))]) X dX8_weight_24 [1, 2, 0] rfl (Nat.le_of_ble_eq_true rfl) rfl ?_
  refine g_bipush X (10 : Int32) dX8_weight_25 (by decide) ?_
  refine g_iload_n X dX8_weight_27 0 rfl rfl ?_
  obtain ⟨q297, hq297, hf⟩ := obind hf
  refine g_callS (gs' := []) (rest := [.int (10 : Int32)]) X dX8_weight_28 (c_X8_bits l D cy ad x0 hq297) mf_X8_bits ms_X8_bits lkm_X8_57 ⟨(Nat.le_of_ble_eq_true rfl), (Nat.le_of_ble_eq_true rfl), (Nat.le_of_ble_eq_true rfl), (Nat.le_of_ble_eq_true rfl)⟩ [] _ (List.Perm.refl _ : ([] : List Nat).Perm (List.range 0)) rfl (List.Perm.refl _ : ([] : List Nat).Perm (List.range 0)) rfl (Nat.le_of_ble_eq_true rfl) rfl ?_
  refine g_imul X dX8_weight_31 ?_
  refine g_iload_n X dX8_weight_32 2 rfl rfl ?_
  refine g_if_eq X 46 dX8_weight_33 (by decide) (fun c298 => ?_) (fun c298 => ?_)
  · have hf := opos c298 hf
    refine g_iconst X (0 : Int32) dX8_weight_46 (by decide) ?_
    refine g_sub [] (lv' := []) rfl ?_
    exact j_X8_weight_b47 X hr (0 : Int32) ((10 : Int32) * q297) hf
  · have hf := oneg c298 hf
    refine g_iconst X (2 : Int32) dX8_weight_36 (by decide) ?_
    refine g_iload_n X dX8_weight_37 1 rfl rfl ?_
    refine g_iconst X (2 : Int32) dX8_weight_38 (by decide) ?_
    refine g_irem X dX8_weight_39 (by decide) ?_
    refine g_imul X dX8_weight_40 ?_
    refine g_iconst X (1 : Int32) dX8_weight_41 (by decide) ?_
    refine g_isub X dX8_weight_42 ?_
    refine g_goto X 47 dX8_weight_43 (by decide) ?_
    refine g_sub [] (lv' := []) rfl ?_
    exact j_X8_weight_b47 X hr (((2 : Int32) * (x1 - x1 / (2 : Int32) * (2 : Int32))) - (1 : Int32)) ((10 : Int32) * q297) hf
def f_X8_weight_b23 (x0 : Int32) (x1 : Int32) : Option (Int32) :=
  f_X8_weight_b24 x0 x1 false
set_option maxRecDepth 100000 in
set_option maxHeartbeats 4000000 in
theorem j_X8_weight_b23 {p : Program} {l : Launch} {e : Env} {s : State} {m : MethodId} {args : Array Value} {below : List Frame} {meth : Method} {c : Code} {A : Nat → Prop} {D : va_G} {cy : Nat → ClassId} {ad : (Nat → Nat) × (Nat → Nat)} (X : gK p s m args meth c A D cy ad cX8_weight 3 RX8) (hr : meth.sig.returnType = (some .int)) (x0 : Int32) (x1 : Int32) {q : Int32} (hf : f_X8_weight_b23 x0 x1 = some q) : GW p l e rmX8_weight s m args below meth c A D 3 0 0 (MQ below (cmQ D cy A (some (.int q)) ([] : List va_W).flatten) args s 0 0 A) 23 [(0, .int x0), (1, .int x1)] [] [] := by
  unfold f_X8_weight_b23 at hf
  refine g_iconst X (0 : Int32) dX8_weight_23 (by decide) ?_
  exact j_X8_weight_b24 X hr x0 x1 false hf
def f_X8_weight (p0 : Int32) (p1 : Int32) : Option (Int32) :=
  if (12 : Int32) ≤ (p1 / (2 : Int32)) then f_X8_weight_b23 p0 p1 else if ((p0 >>> ((p1 / (2 : Int32)) &&& 31)) &&& (1 : Int32)) = (1 : Int32) then f_X8_weight_b24 p0 p1 true else f_X8_weight_b23 p0 p1
set_option maxRecDepth 100000 in
set_option maxHeartbeats 4000000 in
theorem c_X8_weight (l : Launch) (D : va_G) (cy : Nat → ClassId) (ad : (Nat → Nat) × (Nat → Nat)) (p0 : Int32) (p1 : Int32) {q : Int32} (hf : f_X8_weight p0 p1 = some q) : CM l yX8_weight cX8_weight 3 (some .int) rmX8_weight D cy ad [.int p0, .int p1] [] (some (.int q)) [] := by
  refine cm_of (lv0 := [(0, .int p0), (1, .int p1)]) (by decide) (Nat.le_of_ble_eq_true rfl) rfl ?_
  intro p e s m args below meth c A X hr hn
  have X : gK p s m args meth c A D cy ad cX8_weight 3 RX8 := X
  unfold f_X8_weight at hf
  refine g_iload_n X dX8_weight_0 1 rfl rfl ?_
  refine g_iconst X (2 : Int32) dX8_weight_1 (by decide) ?_
  refine g_idiv X dX8_weight_2 (by decide) ?_
  refine g_bipush X (12 : Int32) dX8_weight_3 (by decide) ?_
  refine g_icmp_ge X 23 dX8_weight_5 (by decide) (fun c300 => ?_) (fun c300 => ?_)
  · have hf := opos c300 hf
    exact j_X8_weight_b23 X hr p0 p1 hf
  · have hf := oneg c300 hf
    refine g_iload_n X dX8_weight_8 0 rfl rfl ?_
    refine g_iload_n X dX8_weight_9 1 rfl rfl ?_
    refine g_iconst X (2 : Int32) dX8_weight_10 (by decide) ?_
    refine g_idiv X dX8_weight_11 (by decide) ?_
    refine g_ishr X dX8_weight_12 ?_
    refine g_iconst X (1 : Int32) dX8_weight_13 (by decide) ?_
    refine g_iand X dX8_weight_14 ?_
    refine g_iconst X (1 : Int32) dX8_weight_15 (by decide) ?_
    refine g_icmp_ne X 23 dX8_weight_16 (by decide) (fun c299 => ?_) (fun c299 => ?_)
    · have hf := oneg c299 hf
      exact j_X8_weight_b23 X hr p0 p1 hf
    · have hf := opos c299 hf
      refine g_iconst X (1 : Int32) dX8_weight_19 (by decide) ?_
      refine g_goto X 24 dX8_weight_20 (by decide) ?_
      exact j_X8_weight_b24 X hr p0 p1 true hf
abbrev rmX8_outcome : Room := ({ frames := 2, cells := 0, slots := 0, locals := 44 } : Room)
def f_X8_outcome_b48 (x5 : Int32) (y0 : Bool) (y1 : Int32) (y2 : Int32) : Option (Int32) :=
  if x5 ≤ (y2 * (y1 + (b2i y0))) then if (y2 * (y1 + (b2i y0))) ≤ x5 then some (0 : Int32) else some (2 : Int32) else some (1 : Int32)
set_option maxRecDepth 100000 in
set_option maxHeartbeats 4000000 in
theorem j_X8_outcome_b48 {p : Program} {l : Launch} {e : Env} {s : State} {m : MethodId} {args : Array Value} {below : List Frame} {meth : Method} {c : Code} {A : Nat → Prop} {D : va_G} {cy : Nat → ClassId} {ad : (Nat → Nat) × (Nat → Nat)} (X : gK p s m args meth c A D cy ad cX8_outcome 7 RX8) (hr : meth.sig.returnType = (some .int)) (x5 : Int32) (y0 : Bool) (y1 : Int32) (y2 : Int32) {q : Int32} (hf : f_X8_outcome_b48 x5 y0 y1 y2 = some q) : GW p l e rmX8_outcome s m args below meth c A D 7 0 0 (MQ below (cmQ D cy A (some (.int q)) ([] : List va_W).flatten) args s 0 0 A) 48 [(5, .int x5)] [.int (b2i y0), .int y1, .int y2] [] := by
  unfold f_X8_outcome_b48 at hf
  refine g_iadd X dX8_outcome_48 ?_
  refine g_imul X dX8_outcome_49 ?_
  refine g_istore (lv' := [(5, .int x5), (6, .int (y2 * (y1 + (b2i y0))))]) X dX8_outcome_50 [1, 0] (Nat.le_of_ble_eq_true rfl) rfl ?_
  refine g_iload X dX8_outcome_52 0 rfl ?_
  refine g_iload X dX8_outcome_54 1 rfl ?_
  refine g_icmp_le X 63 dX8_outcome_56 (by decide) (fun c308 => ?_) (fun c308 => ?_)
  · have hf := opos c308 hf
    refine g_iload X dX8_outcome_63 0 rfl ?_
    refine g_iload X dX8_outcome_65 1 rfl ?_
    refine g_icmp_ge X 74 dX8_outcome_67 (by decide) (fun c307 => ?_) (fun c307 => ?_)
    · have hf := opos c307 hf
      refine g_iconst X (0 : Int32) dX8_outcome_74 (by decide) ?_
      have hf := Option.some.inj hf
      subst hf
      exact g_iret X hr dX8_outcome_75
    · have hf := oneg c307 hf
      refine g_iconst X (2 : Int32) dX8_outcome_70 (by decide) ?_
      refine g_goto X 75 dX8_outcome_71 (by decide) ?_
      have hf := Option.some.inj hf
      subst hf
      exact g_iret X hr dX8_outcome_75
  · have hf := oneg c308 hf
    refine g_iconst X (1 : Int32) dX8_outcome_59 (by decide) ?_
    refine g_goto X 75 dX8_outcome_60 (by decide) ?_
    have hf := Option.some.inj hf
    subst hf
    exact g_iret X hr dX8_outcome_75
def f_X8_outcome_b22 (x1 : Int32) (x3 : Int32) (x4 : Int32) (y0 : Bool) (y1 : Int32) (y2 : Int32) : Option (Int32) :=
  (f_X8_weight x1 (x4 / (3 : Int32))).bind (fun q306 => if (x4 - x4 / (3 : Int32) * (3 : Int32)) = (2 : Int32) then f_X8_outcome_b48 (y2 * (y1 + (b2i y0))) true q306 x3 else f_X8_outcome_b48 (y2 * (y1 + (b2i y0))) false q306 x3)
set_option maxRecDepth 100000 in
set_option maxHeartbeats 4000000 in
theorem j_X8_outcome_b22 {p : Program} {l : Launch} {e : Env} {s : State} {m : MethodId} {args : Array Value} {below : List Frame} {meth : Method} {c : Code} {A : Nat → Prop} {D : va_G} {cy : Nat → ClassId} {ad : (Nat → Nat) × (Nat → Nat)} (X : gK p s m args meth c A D cy ad cX8_outcome 7 RX8) (hr : meth.sig.returnType = (some .int)) (x1 : Int32) (x3 : Int32) (x4 : Int32) (y0 : Bool) (y1 : Int32) (y2 : Int32) {q : Int32} (hf : f_X8_outcome_b22 x1 x3 x4 y0 y1 y2 = some q) : GW p l e rmX8_outcome s m args below meth c A D 7 0 0 (MQ below (cmQ D cy A (some (.int q)) ([] : List va_W).flatten) args s 0 0 A) 22 [(1, .int x1), (3, .int x3), (4, .int x4)] [.int (b2i y0), .int y1, .int y2] [] := by
  unfold f_X8_outcome_b22 at hf
  refine g_iadd X dX8_outcome_22 ?_
  refine g_imul X dX8_outcome_23 ?_
  refine g_istore (lv' := [(1, .int x1), (3, .int x3), (4, .int x4), (5, .int (y2 * (y1 + (b2i y0))))]) X dX8_outcome_24 [1, 2, 3, 0] (Nat.le_of_ble_eq_true rfl) rfl ?_
  refine g_iload_n X dX8_outcome_26 1 rfl rfl ?_
  refine g_iload_n X dX8_outcome_27 0 rfl rfl ?_
  refine g_iload X dX8_outcome_28 2 rfl ?_
  refine g_iconst X (3 : Int32) dX8_outcome_30 (by decide) ?_
  refine g_idiv X dX8_outcome_31 (by decide) ?_
  obtain ⟨q306, hq306, hf⟩ := obind hf
  refine g_callS (gs' := []) (rest := [.int x3]) X dX8_outcome_32 (c_X8_weight l D cy ad x1 (x4 / (3 : Int32)) hq306) mf_X8_weight ms_X8_weight lkm_X8_61 ⟨(Nat.le_of_ble_eq_true rfl), (Nat.le_of_ble_eq_true rfl), (Nat.le_of_ble_eq_true rfl), (Nat.le_of_ble_eq_true rfl)⟩ [] _ (List.Perm.refl _ : ([] : List Nat).Perm (List.range 0)) rfl (List.Perm.refl _ : ([] : List Nat).Perm (List.range 0)) rfl (Nat.le_of_ble_eq_true rfl) rfl ?_
  refine g_iload X dX8_outcome_35 2 rfl ?_
  refine g_iconst X (3 : Int32) dX8_outcome_37 (by decide) ?_
  refine g_irem X dX8_outcome_38 (by decide) ?_
  refine g_iconst X (2 : Int32) dX8_outcome_39 (by decide) ?_
  refine g_icmp_ne X 47 dX8_outcome_40 (by decide) (fun c309 => ?_) (fun c309 => ?_)
  · have hf := oneg c309 hf
    refine g_iconst X (0 : Int32) dX8_outcome_47 (by decide) ?_
    refine g_sub [3] (lv' := [(5, .int (y2 * (y1 + (b2i y0))))]) rfl ?_
    exact j_X8_outcome_b48 X hr (y2 * (y1 + (b2i y0))) false q306 x3 hf
  · have hf := opos c309 hf
    refine g_iconst X (1 : Int32) dX8_outcome_43 (by decide) ?_
    refine g_goto X 48 dX8_outcome_44 (by decide) ?_
    refine g_sub [3] (lv' := [(5, .int (y2 * (y1 + (b2i y0))))]) rfl ?_
    exact j_X8_outcome_b48 X hr (y2 * (y1 + (b2i y0))) true q306 x3 hf
def f_X8_outcome (p0 : Int32) (p1 : Int32) (p2 : Int32) (p3 : Int32) (p4 : Int32) : Option (Int32) :=
  (f_X8_weight p0 (p4 / (3 : Int32))).bind (fun q305 => if (p4 - p4 / (3 : Int32) * (3 : Int32)) = (1 : Int32) then f_X8_outcome_b22 p1 p3 p4 true q305 p2 else f_X8_outcome_b22 p1 p3 p4 false q305 p2)
set_option maxRecDepth 100000 in
set_option maxHeartbeats 4000000 in
theorem c_X8_outcome (l : Launch) (D : va_G) (cy : Nat → ClassId) (ad : (Nat → Nat) × (Nat → Nat)) (p0 : Int32) (p1 : Int32) (p2 : Int32) (p3 : Int32) (p4 : Int32) {q : Int32} (hf : f_X8_outcome p0 p1 p2 p3 p4 = some q) : CM l yX8_outcome cX8_outcome 7 (some .int) rmX8_outcome D cy ad [.int p0, .int p1, .int p2, .int p3, .int p4] [] (some (.int q)) [] := by
  refine cm_of (lv0 := [(0, .int p0), (1, .int p1), (2, .int p2), (3, .int p3), (4, .int p4)]) (by decide) (Nat.le_of_ble_eq_true rfl) rfl ?_
  intro p e s m args below meth c A X hr hn
  have X : gK p s m args meth c A D cy ad cX8_outcome 7 RX8 := X
  unfold f_X8_outcome at hf
  refine g_iload_n X dX8_outcome_0 2 rfl rfl ?_
  refine g_iload_n X dX8_outcome_1 0 rfl rfl ?_
  refine g_iload X dX8_outcome_2 4 rfl ?_
  refine g_iconst X (3 : Int32) dX8_outcome_4 (by decide) ?_
  refine g_idiv X dX8_outcome_5 (by decide) ?_
  obtain ⟨q305, hq305, hf⟩ := obind hf
  refine g_callS (gs' := []) (rest := [.int p2]) X dX8_outcome_6 (c_X8_weight l D cy ad p0 (p4 / (3 : Int32)) hq305) mf_X8_weight ms_X8_weight lkm_X8_61 ⟨(Nat.le_of_ble_eq_true rfl), (Nat.le_of_ble_eq_true rfl), (Nat.le_of_ble_eq_true rfl), (Nat.le_of_ble_eq_true rfl)⟩ [] _ (List.Perm.refl _ : ([] : List Nat).Perm (List.range 0)) rfl (List.Perm.refl _ : ([] : List Nat).Perm (List.range 0)) rfl (Nat.le_of_ble_eq_true rfl) rfl ?_
  refine g_iload X dX8_outcome_9 4 rfl ?_
  refine g_iconst X (3 : Int32) dX8_outcome_11 (by decide) ?_
  refine g_irem X dX8_outcome_12 (by decide) ?_
  refine g_iconst X (1 : Int32) dX8_outcome_13 (by decide) ?_
  refine g_icmp_ne X 21 dX8_outcome_14 (by decide) (fun c310 => ?_) (fun c310 => ?_)
  · have hf := oneg c310 hf
    refine g_iconst X (0 : Int32) dX8_outcome_21 (by decide) ?_
    refine g_sub [1, 3, 4] (lv' := [(1, .int p1), (3, .int p3), (4, .int p4)]) rfl ?_
    exact j_X8_outcome_b22 X hr p1 p3 p4 false q305 p2 hf
  · have hf := opos c310 hf
    refine g_iconst X (1 : Int32) dX8_outcome_17 (by decide) ?_
    refine g_goto X 22 dX8_outcome_18 (by decide) ?_
    refine g_sub [1, 3, 4] (lv' := [(1, .int p1), (3, .int p3), (4, .int p4)]) rfl ?_
    exact j_X8_outcome_b22 X hr p1 p3 p4 true q305 p2 hf
abbrev rmX8_at : Room := ({ frames := 0, cells := 0, slots := 0, locals := 0 } : Room)
def f_X8_at (p0 : Int32) : Option (Int32) :=
  some ((7 : Int32) + ((5 : Int32) * p0))
set_option maxRecDepth 100000 in
set_option maxHeartbeats 4000000 in
theorem c_X8_at (l : Launch) (D : va_G) (cy : Nat → ClassId) (ad : (Nat → Nat) × (Nat → Nat)) (p0 : Int32) {q : Int32} (hf : f_X8_at p0 = some q) : CM l yX8_at cX8_at 1 (some .int) rmX8_at D cy ad [.int p0] [] (some (.int q)) [] := by
  refine cm_of (lv0 := [(0, .int p0)]) (by decide) (Nat.le_of_ble_eq_true rfl) rfl ?_
  intro p e s m args below meth c A X hr hn
  have X : gK p s m args meth c A D cy ad cX8_at 1 RX8 := X
  unfold f_X8_at at hf
  refine g_bipush X (7 : Int32) dX8_at_0 (by decide) ?_
  refine g_iconst X (5 : Int32) dX8_at_2 (by decide) ?_
  refine g_iload_n X dX8_at_3 0 rfl rfl ?_
  refine g_imul X dX8_at_4 ?_
  refine g_iadd X dX8_at_5 ?_
  have hf := Option.some.inj hf
  subst hf
  exact g_iret X hr dX8_at_6
abbrev rmX8_fits : Room := ({ frames := 3, cells := 0, slots := 0, locals := 70 } : Room)
def f_X8_fits_B2 (w0 : Fn) (x1 : Int32) (x2 : Int32) (z : Int32) : Option ((Int32) ⊕ ((Unit) ⊕ (Unit))) :=
  if x2 ≤ z then some (.inr (.inr ())) else (f_X8_at z).bind (fun q325 => if q325 < 0 ∨ 107 ≤ q325.toNatClampNeg then none else if (q325 + (1 : Int32)) < 0 ∨ 107 ≤ (q325 + (1 : Int32)).toNatClampNeg then none else if (q325 + (3 : Int32)) < 0 ∨ 107 ≤ (q325 + (3 : Int32)).toNatClampNeg then none else if (q325 + (4 : Int32)) < 0 ∨ 107 ≤ (q325 + (4 : Int32)).toNatClampNeg then none else (f_X8_outcome (w0 q325.toNatClampNeg) (w0 (q325 + (1 : Int32)).toNatClampNeg) (w0 (q325 + (3 : Int32)).toNatClampNeg) (w0 (q325 + (4 : Int32)).toNatClampNeg) x1).bind (fun q330 => if (q325 + (2 : Int32)) < 0 ∨ 107 ≤ (q325 + (2 : Int32)).toNatClampNeg then none else if q330 = (w0 (q325 + (2 : Int32)).toNatClampNeg) then some (.inl ((z + (1 : Int32)))) else some (.inr (.inl ()))))
set_option maxRecDepth 100000 in
set_option maxHeartbeats 4000000 in
theorem b_X8_fits_B2 {p : Program} {l : Launch} {e : Env} {s : State} {m : MethodId} {args : Array Value} {below : List Frame} {meth : Method} {c : Code} {A : Nat → Prop} {D : va_G} {cy : Nat → ClassId} {ad : (Nat → Nat) × (Nat → Nat)} {Q : State → Prop} (X : gK p s m args meth c A D cy ad cX8_fits 5 RX8) (hr : meth.sig.returnType = (some .boolean)) {g0 : Nat} (w0 : Fn) (x1 : Int32) (x2 : Int32) (z : Int32) {q : (Int32) ⊕ ((Unit) ⊕ (Unit))} (hf : f_X8_fits_B2 w0 x1 x2 z = some q) (K1 : ∀ s' : Int32, q = .inl s' → GW p l e rmX8_fits s m args below meth c A D 5 0 0 Q 2 [(0, .ref g0), (1, .int x1), (2, .int x2), (3, .int s')] [] [AI cy 107 g0 w0]) (K2 : ∀ e' : Unit, q = .inr (.inl e') → GW p l e rmX8_fits s m args below meth c A D 5 0 0 Q 48 [] [] [AI cy 107 g0 w0]) (K3 : ∀ e' : Unit, q = .inr (.inr e') → GW p l e rmX8_fits s m args below meth c A D 5 0 0 Q 56 [] [] [AI cy 107 g0 w0]) : GW p l e rmX8_fits s m args below meth c A D 5 0 0 Q 2 [(0, .ref g0), (1, .int x1), (2, .int x2), (3, .int z)] [] [AI cy 107 g0 w0] := by
  unfold f_X8_fits_B2 at hf
  refine g_iload_n X dX8_fits_2 3 rfl rfl ?_
  refine g_iload_n X dX8_fits_3 2 rfl rfl ?_
  refine g_icmp_ge X 56 dX8_fits_4 (by decide) (fun c333 => ?_) (fun c333 => ?_)
  · have hf := opos c333 hf
    refine g_sub [] (lv' := []) rfl ?_
    exact K3 () (Option.some.inj hf).symm
  · have hf := oneg c333 hf
    refine g_iload_n X dX8_fits_7 3 rfl rfl ?_
    obtain ⟨q325, hq325, hf⟩ := obind hf
    refine g_callS (gs' := [AI cy 107 g0 w0]) (rest := []) X dX8_fits_8 (c_X8_at l D cy ad z hq325) mf_X8_at ms_X8_at lkm_X8_65 ⟨(Nat.le_of_ble_eq_true rfl), (Nat.le_of_ble_eq_true rfl), (Nat.le_of_ble_eq_true rfl), (Nat.le_of_ble_eq_true rfl)⟩ [0] _ (by decide : [0].Perm (List.range 1)) rfl (by decide : [0].Perm (List.range 1)) rfl (Nat.le_of_ble_eq_true rfl) rfl ?_
    refine g_istore (lv' := [(0, .ref g0), (1, .int x1), (2, .int x2), (3, .int z), (4, .int q325)]) X dX8_fits_11 [1, 2, 3, 4, 0] (Nat.le_of_ble_eq_true rfl) rfl ?_
    refine g_aload_n X dX8_fits_13 0 rfl rfl ?_
    refine g_iload X dX8_fits_14 4 rfl ?_
    obtain ⟨n326, hf⟩ := oguard hf
    refine g_iaload X dX8_fits_16 0 0 rfl rfl n326 ?_
    refine g_aload_n X dX8_fits_17 0 rfl rfl ?_
    refine g_iload X dX8_fits_18 4 rfl ?_
    refine g_iconst X (1 : Int32) dX8_fits_20 (by decide) ?_
    refine g_iadd X dX8_fits_21 ?_
    obtain ⟨n327, hf⟩ := oguard hf
    refine g_iaload X dX8_fits_22 0 0 rfl rfl n327 ?_
    refine g_aload_n X dX8_fits_23 0 rfl rfl ?_
    refine g_iload X dX8_fits_24 4 rfl ?_
    refine g_iconst X (3 : Int32) dX8_fits_26 (by decide) ?_
    refine g_iadd X dX8_fits_27 ?_
    obtain ⟨n328, hf⟩ := oguard hf
    refine g_iaload X dX8_fits_28 0 0 rfl rfl n328 ?_
    refine g_aload_n X dX8_fits_29 0 rfl rfl ?_
    refine g_iload X dX8_fits_30 4 rfl ?_
    refine g_iconst X (4 : Int32) dX8_fits_32 (by decide) ?_
    refine g_iadd X dX8_fits_33 ?_
    obtain ⟨n329, hf⟩ := oguard hf
    refine g_iaload X dX8_fits_34 0 0 rfl rfl n329 ?_
    refine g_iload_n X dX8_fits_35 1 rfl rfl ?_
    obtain ⟨q330, hq330, hf⟩ := obind hf
    refine g_callS (gs' := [AI cy 107 g0 w0]) (rest := []) X dX8_fits_36 (c_X8_outcome l D cy ad (w0 q325.toNatClampNeg) (w0 (q325 + (1 : Int32)).toNatClampNeg) (w0 (q325 + (3 : Int32)).toNatClampNeg) (w0 (q325 + (4 : Int32)).toNatClampNeg) x1 hq330) mf_X8_outcome ms_X8_outcome lkm_X8_68 ⟨(Nat.le_of_ble_eq_true rfl), (Nat.le_of_ble_eq_true rfl), (Nat.le_of_ble_eq_true rfl), (Nat.le_of_ble_eq_true rfl)⟩ [0] _ (by decide : [0].Perm (List.range 1)) rfl (by decide : [0].Perm (List.range 1)) rfl (Nat.le_of_ble_eq_true rfl) rfl ?_
    refine g_aload_n X dX8_fits_39 0 rfl rfl ?_
    refine g_iload X dX8_fits_40 4 rfl ?_
    refine g_iconst X (2 : Int32) dX8_fits_42 (by decide) ?_
    refine g_iadd X dX8_fits_43 ?_
    obtain ⟨n331, hf⟩ := oguard hf
    refine g_iaload X dX8_fits_44 0 0 rfl rfl n331 ?_
    refine g_icmp_eq X 50 dX8_fits_45 (by decide) (fun c332 => ?_) (fun c332 => ?_)
    · have hf := opos c332 hf
      refine g_iinc (lv' := [(0, .ref g0), (1, .int x1), (2, .int x2), (3, .int (z + (1 : Int32))), (4, .int q325)]) (v := (1 : Int32)) X dX8_fits_50 3 rfl (by decide) [1, 2, 3, 0, 4] (Nat.le_of_ble_eq_true rfl) rfl ?_
      refine g_goto X 2 dX8_fits_53 (by decide) ?_
      refine g_sub [0, 1, 2, 3] (lv' := [(0, .ref g0), (1, .int x1), (2, .int x2), (3, .int (z + (1 : Int32)))]) rfl ?_
      exact K1 ((z + (1 : Int32))) (Option.some.inj hf).symm
    · have hf := oneg c332 hf
      refine g_sub [] (lv' := []) rfl ?_
      exact K2 () (Option.some.inj hf).symm
set_option maxRecDepth 100000 in
set_option maxHeartbeats 4000000 in
theorem w_X8_fits_B2 {p : Program} {l : Launch} {e : Env} {s : State} {m : MethodId} {args : Array Value} {below : List Frame} {meth : Method} {c : Code} {A : Nat → Prop} {D : va_G} {cy : Nat → ClassId} {ad : (Nat → Nat) × (Nat → Nat)} {Q : State → Prop} (X : gK p s m args meth c A D cy ad cX8_fits 5 RX8) (hr : meth.sig.returnType = (some .boolean)) {g0 : Nat} (w0 : Fn) (x1 : Int32) (x2 : Int32) {n : Nat} {z : Int32} {q : (Unit) ⊕ (Unit)} (hf : itl (f_X8_fits_B2 w0 x1 x2) n z = some q) (K2 : ∀ e' : Unit, q = .inl e' → GW p l e rmX8_fits s m args below meth c A D 5 0 0 Q 48 [] [] [AI cy 107 g0 w0]) (K3 : ∀ e' : Unit, q = .inr e' → GW p l e rmX8_fits s m args below meth c A D 5 0 0 Q 56 [] [] [AI cy 107 g0 w0]) : GW p l e rmX8_fits s m args below meth c A D 5 0 0 Q 2 [(0, .ref g0), (1, .int x1), (2, .int x2), (3, .int z)] [] [AI cy 107 g0 w0] :=
  itl_ind (f := f_X8_fits_B2 w0 x1 x2) (I := fun z => GW p l e rmX8_fits s m args below meth c A D 5 0 0 Q 2 [(0, .ref g0), (1, .int x1), (2, .int x2), (3, .int z)] [] [AI cy 107 g0 w0]) (J := (fun q => (∀ e' : Unit, q = .inl e' → GW p l e rmX8_fits s m args below meth c A D 5 0 0 Q 48 [] [] [AI cy 107 g0 w0]) ∧ (∀ e' : Unit, q = .inr e' → GW p l e rmX8_fits s m args below meth c A D 5 0 0 Q 56 [] [] [AI cy 107 g0 w0]))) (fun z x h k1 k2 => b_X8_fits_B2 X hr w0 x1 x2 z h (fun s' hs => k1 s' hs) (fun e' he => (k2 _ he).1 e' rfl) (fun e' he => (k2 _ he).2 e' rfl)) n z q hf ⟨K2, K3⟩
def f_X8_fits (w0 : Fn) (p1 : Int32) (p2 : Int32) : Option (Bool) :=
  (itl (f_X8_fits_B2 w0 p1 p2) FU (0 : Int32)).bind (Sum.elim (fun q334e => some false) (fun q334e => some true))
set_option maxRecDepth 100000 in
set_option maxHeartbeats 4000000 in
theorem c_X8_fits (l : Launch) (D : va_G) (cy : Nat → ClassId) (ad : (Nat → Nat) × (Nat → Nat)) (g0 : Nat) (w0 : Fn) (p1 : Int32) (p2 : Int32) {q : Bool} (hf : f_X8_fits w0 p1 p2 = some q) : CM l yX8_fits cX8_fits 5 (some .boolean) rmX8_fits D cy ad [.ref g0, .int p1, .int p2] [AI cy 107 g0 w0] (some (.int (b2i q))) [AI cy 107 g0 w0] := by
  refine cm_of (lv0 := [(0, .ref g0), (1, .int p1), (2, .int p2)]) (by decide) (Nat.le_of_ble_eq_true rfl) rfl ?_
  intro p e s m args below meth c A X hr hn
  have X : gK p s m args meth c A D cy ad cX8_fits 5 RX8 := X
  unfold f_X8_fits at hf
  refine g_iconst X (0 : Int32) dX8_fits_0 (by decide) ?_
  refine g_istore_n (lv' := [(0, .ref g0), (1, .int p1), (2, .int p2), (3, .int (0 : Int32))]) X dX8_fits_1 [1, 2, 3, 0] rfl (Nat.le_of_ble_eq_true rfl) rfl ?_
  obtain ⟨q334, hq334, hf⟩ := obind hf
  refine w_X8_fits_B2 X hr w0 p1 p2 hq334 (fun q334e hq334e => ?_) (fun q334e hq334e => ?_)
  · subst hq334e
    have hf := sinl hf
    refine g_iconst X (0 : Int32) dX8_fits_48 (by decide) ?_
    have hf := Option.some.inj hf
    subst hf
    exact g_zret (b := false) X hr dX8_fits_49
  · subst hq334e
    have hf := sinr hf
    refine g_iconst X (1 : Int32) dX8_fits_56 (by decide) ?_
    have hf := Option.some.inj hf
    subst hf
    exact g_zret (b := true) X hr dX8_fits_57
abbrev rmX8_many : Room := ({ frames := 4, cells := 0, slots := 0, locals := 94 } : Room)
def f_X8_many_B4_b29 (w0 : Fn) (x1 : Int32) (x3 : Int32) (y0 : Bool) (y1 : Int32) : Option ((Int32 × Int32) ⊕ ((Int32))) :=
  some (.inl ((y1 + (b2i y0)), (x3 + (1 : Int32))))
set_option maxRecDepth 100000 in
set_option maxHeartbeats 4000000 in
theorem j_X8_many_B4_b29 {p : Program} {l : Launch} {e : Env} {s : State} {m : MethodId} {args : Array Value} {below : List Frame} {meth : Method} {c : Code} {A : Nat → Prop} {D : va_G} {cy : Nat → ClassId} {ad : (Nat → Nat) × (Nat → Nat)} {Q : State → Prop} (X : gK p s m args meth c A D cy ad cX8_many 4 RX8) (hr : meth.sig.returnType = (some .int)) {g0 : Nat} (w0 : Fn) (x1 : Int32) (x3 : Int32) (y0 : Bool) (y1 : Int32) {q : (Int32 × Int32) ⊕ ((Int32))} (hf : f_X8_many_B4_b29 w0 x1 x3 y0 y1 = some q) (K1 : ∀ s' : Int32 × Int32, q = .inl s' → GW p l e rmX8_many s m args below meth c A D 4 0 0 Q 4 [(0, .ref g0), (1, .int x1), (2, .int s'.1), (3, .int s'.2)] [] [AI cy 107 g0 w0]) (K2 : ∀ e' : Int32, q = .inr (e') → GW p l e rmX8_many s m args below meth c A D 4 0 0 Q 37 [(2, .int e')] [] [AI cy 107 g0 w0]) : GW p l e rmX8_many s m args below meth c A D 4 0 0 Q 29 [(0, .ref g0), (1, .int x1), (3, .int x3)] [.int (b2i y0), .int y1] [AI cy 107 g0 w0] := by
  unfold f_X8_many_B4_b29 at hf
  refine g_iadd X dX8_many_29 ?_
  refine g_istore_n (lv' := [(0, .ref g0), (1, .int x1), (2, .int (y1 + (b2i y0))), (3, .int x3)]) X dX8_many_30 [1, 2, 0, 3] rfl (Nat.le_of_ble_eq_true rfl) rfl ?_
  refine g_iinc (lv' := [(0, .ref g0), (1, .int x1), (2, .int (y1 + (b2i y0))), (3, .int (x3 + (1 : Int32)))]) (v := (1 : Int32)) X dX8_many_31 3 rfl (by decide) [1, 2, 3, 0] (Nat.le_of_ble_eq_true rfl) rfl ?_
  refine g_goto X 4 dX8_many_34 (by decide) ?_
  exact K1 ((y1 + (b2i y0)), (x3 + (1 : Int32))) (Option.some.inj hf).symm
def f_X8_many_B4 (w0 : Fn) (x1 : Int32) (z : Int32 × Int32) : Option ((Int32 × Int32) ⊕ ((Int32))) :=
  (f_X8_allOf (w0 (0 : Int32).toNatClampNeg)).bind (fun q339 => if q339 ≤ z.2 then some (.inr ((z.1))) else (f_X8_fits w0 z.2 x1).bind (fun q340 => if (b2i q340) = 0 then f_X8_many_B4_b29 w0 x1 z.2 false z.1 else f_X8_many_B4_b29 w0 x1 z.2 true z.1))
set_option maxRecDepth 100000 in
set_option maxHeartbeats 4000000 in
theorem b_X8_many_B4 {p : Program} {l : Launch} {e : Env} {s : State} {m : MethodId} {args : Array Value} {below : List Frame} {meth : Method} {c : Code} {A : Nat → Prop} {D : va_G} {cy : Nat → ClassId} {ad : (Nat → Nat) × (Nat → Nat)} {Q : State → Prop} (X : gK p s m args meth c A D cy ad cX8_many 4 RX8) (hr : meth.sig.returnType = (some .int)) {g0 : Nat} (w0 : Fn) (x1 : Int32) (z : Int32 × Int32) {q : (Int32 × Int32) ⊕ ((Int32))} (hf : f_X8_many_B4 w0 x1 z = some q) (K1 : ∀ s' : Int32 × Int32, q = .inl s' → GW p l e rmX8_many s m args below meth c A D 4 0 0 Q 4 [(0, .ref g0), (1, .int x1), (2, .int s'.1), (3, .int s'.2)] [] [AI cy 107 g0 w0]) (K2 : ∀ e' : Int32, q = .inr (e') → GW p l e rmX8_many s m args below meth c A D 4 0 0 Q 37 [(2, .int e')] [] [AI cy 107 g0 w0]) : GW p l e rmX8_many s m args below meth c A D 4 0 0 Q 4 [(0, .ref g0), (1, .int x1), (2, .int z.1), (3, .int z.2)] [] [AI cy 107 g0 w0] := by
  unfold f_X8_many_B4 at hf
  refine g_iload_n X dX8_many_4 3 rfl rfl ?_
  refine g_aload_n X dX8_many_5 0 rfl rfl ?_
  refine g_iconst X (0 : Int32) dX8_many_6 (by decide) ?_
  refine g_iaload X dX8_many_7 0 0 rfl rfl (by decide) ?_
  obtain ⟨q339, hq339, hf⟩ := obind hf
  refine g_callS (gs' := [AI cy 107 g0 w0]) (rest := [.int z.2]) X dX8_many_8 (c_X8_allOf l D cy ad (w0 (0 : Int32).toNatClampNeg) hq339) mf_X8_allOf ms_X8_allOf lkm_X8_72 ⟨(Nat.le_of_ble_eq_true rfl), (Nat.le_of_ble_eq_true rfl), (Nat.le_of_ble_eq_true rfl), (Nat.le_of_ble_eq_true rfl)⟩ [0] _ (by decide : [0].Perm (List.range 1)) rfl (by decide : [0].Perm (List.range 1)) rfl (Nat.le_of_ble_eq_true rfl) rfl ?_
  refine g_icmp_ge X 37 dX8_many_11 (by decide) (fun c342 => ?_) (fun c342 => ?_)
  · have hf := opos c342 hf
    refine g_sub [2] (lv' := [(2, .int z.1)]) rfl ?_
    exact K2 (z.1) (Option.some.inj hf).symm
  · have hf := oneg c342 hf
    refine g_iload_n X dX8_many_14 2 rfl rfl ?_
    refine g_aload_n X dX8_many_15 0 rfl rfl ?_
    refine g_iload_n X dX8_many_16 3 rfl rfl ?_
    refine g_iload_n X dX8_many_17 1 rfl rfl ?_
    obtain ⟨q340, hq340, hf⟩ := obind hf
    refine g_callS (gs' := [AI cy 107 g0 w0]) (rest := [.int z.1]) X dX8_many_18 (c_X8_fits l D cy ad g0 w0 z.2 x1 hq340) mf_X8_fits ms_X8_fits lkm_X8_75 ⟨(Nat.le_of_ble_eq_true rfl), (Nat.le_of_ble_eq_true rfl), (Nat.le_of_ble_eq_true rfl), (Nat.le_of_ble_eq_true rfl)⟩ [0] _ (by decide : [0].Perm (List.range 1)) rfl (by decide : [0].Perm (List.range 1)) rfl (Nat.le_of_ble_eq_true rfl) rfl ?_
    refine g_if_eq X 28 dX8_many_21 (by decide) (fun c341 => ?_) (fun c341 => ?_)
    · have hf := opos c341 hf
      refine g_iconst X (0 : Int32) dX8_many_28 (by decide) ?_
      refine g_sub [0, 1, 3] (lv' := [(0, .ref g0), (1, .int x1), (3, .int z.2)]) rfl ?_
      exact j_X8_many_B4_b29 X hr w0 x1 z.2 false z.1 hf K1 K2
    · have hf := oneg c341 hf
      refine g_iconst X (1 : Int32) dX8_many_24 (by decide) ?_
      refine g_goto X 29 dX8_many_25 (by decide) ?_
      refine g_sub [0, 1, 3] (lv' := [(0, .ref g0), (1, .int x1), (3, .int z.2)]) rfl ?_
      exact j_X8_many_B4_b29 X hr w0 x1 z.2 true z.1 hf K1 K2
set_option maxRecDepth 100000 in
set_option maxHeartbeats 4000000 in
theorem w_X8_many_B4 {p : Program} {l : Launch} {e : Env} {s : State} {m : MethodId} {args : Array Value} {below : List Frame} {meth : Method} {c : Code} {A : Nat → Prop} {D : va_G} {cy : Nat → ClassId} {ad : (Nat → Nat) × (Nat → Nat)} {Q : State → Prop} (X : gK p s m args meth c A D cy ad cX8_many 4 RX8) (hr : meth.sig.returnType = (some .int)) {g0 : Nat} (w0 : Fn) (x1 : Int32) {n : Nat} {z : Int32 × Int32} {q : (Int32)} (hf : itl (f_X8_many_B4 w0 x1) n z = some q) (K2 : GW p l e rmX8_many s m args below meth c A D 4 0 0 Q 37 [(2, .int q)] [] [AI cy 107 g0 w0]) : GW p l e rmX8_many s m args below meth c A D 4 0 0 Q 4 [(0, .ref g0), (1, .int x1), (2, .int z.1), (3, .int z.2)] [] [AI cy 107 g0 w0] :=
  itl_ind (f := f_X8_many_B4 w0 x1) (I := fun z => GW p l e rmX8_many s m args below meth c A D 4 0 0 Q 4 [(0, .ref g0), (1, .int x1), (2, .int z.1), (3, .int z.2)] [] [AI cy 107 g0 w0]) (J := (fun q => GW p l e rmX8_many s m args below meth c A D 4 0 0 Q 37 [(2, .int q)] [] [AI cy 107 g0 w0])) (fun z x h k1 k2 => b_X8_many_B4 X hr w0 x1 z h (fun s' hs => k1 s' hs) (fun e' he => k2 e' he)) n z q hf K2
def f_X8_many (w0 : Fn) (p1 : Int32) : Option (Int32) :=
  (itl (f_X8_many_B4 w0 p1) FU ((0 : Int32), (0 : Int32))).bind (fun q343 => some q343)
set_option maxRecDepth 100000 in
set_option maxHeartbeats 4000000 in
theorem c_X8_many (l : Launch) (D : va_G) (cy : Nat → ClassId) (ad : (Nat → Nat) × (Nat → Nat)) (g0 : Nat) (w0 : Fn) (p1 : Int32) {q : Int32} (hf : f_X8_many w0 p1 = some q) : CM l yX8_many cX8_many 4 (some .int) rmX8_many D cy ad [.ref g0, .int p1] [AI cy 107 g0 w0] (some (.int q)) [AI cy 107 g0 w0] := by
  refine cm_of (lv0 := [(0, .ref g0), (1, .int p1)]) (by decide) (Nat.le_of_ble_eq_true rfl) rfl ?_
  intro p e s m args below meth c A X hr hn
  have X : gK p s m args meth c A D cy ad cX8_many 4 RX8 := X
  unfold f_X8_many at hf
  refine g_iconst X (0 : Int32) dX8_many_0 (by decide) ?_
  refine g_istore_n (lv' := [(0, .ref g0), (1, .int p1), (2, .int (0 : Int32))]) X dX8_many_1 [1, 2, 0] rfl (Nat.le_of_ble_eq_true rfl) rfl ?_
  refine g_iconst X (0 : Int32) dX8_many_2 (by decide) ?_
  refine g_istore_n (lv' := [(0, .ref g0), (1, .int p1), (2, .int (0 : Int32)), (3, .int (0 : Int32))]) X dX8_many_3 [1, 2, 3, 0] rfl (Nat.le_of_ble_eq_true rfl) rfl ?_
  obtain ⟨q343, hq343, hf⟩ := obind hf
  refine w_X8_many_B4 X hr w0 p1 hq343 ?_
  refine g_iload_n X dX8_many_37 0 rfl rfl ?_
  have hf := Option.some.inj hf
  subst hf
  exact g_iret X hr dX8_many_38
abbrev rmX8_leftOf : Room := ({ frames := 5, cells := 0, slots := 0, locals := 117 } : Room)
def f_X8_leftOf (w0 : Fn) : Option (Int32) :=
  (f_X8_many w0 (w0 (4 : Int32).toNatClampNeg)).bind (fun q346 => some q346)
set_option maxRecDepth 100000 in
set_option maxHeartbeats 4000000 in
theorem c_X8_leftOf (l : Launch) (D : va_G) (cy : Nat → ClassId) (ad : (Nat → Nat) × (Nat → Nat)) (g0 : Nat) (w0 : Fn) {q : Int32} (hf : f_X8_leftOf w0 = some q) : CM l yX8_leftOf cX8_leftOf 1 (some .int) rmX8_leftOf D cy ad [.ref g0] [AI cy 107 g0 w0] (some (.int q)) [AI cy 107 g0 w0] := by
  refine cm_of (lv0 := [(0, .ref g0)]) (by decide) (Nat.le_of_ble_eq_true rfl) rfl ?_
  intro p e s m args below meth c A X hr hn
  have X : gK p s m args meth c A D cy ad cX8_leftOf 1 RX8 := X
  unfold f_X8_leftOf at hf
  refine g_aload_n X dX8_leftOf_0 0 rfl rfl ?_
  refine g_aload_n X dX8_leftOf_1 0 rfl rfl ?_
  refine g_iconst X (4 : Int32) dX8_leftOf_2 (by decide) ?_
  refine g_iaload X dX8_leftOf_3 0 0 rfl rfl (by decide) ?_
  obtain ⟨q346, hq346, hf⟩ := obind hf
  refine g_callS (gs' := [AI cy 107 g0 w0]) (rest := []) X dX8_leftOf_4 (c_X8_many l D cy ad g0 w0 (w0 (4 : Int32).toNatClampNeg) hq346) mf_X8_many ms_X8_many lkm_X8_79 ⟨(Nat.le_of_ble_eq_true rfl), (Nat.le_of_ble_eq_true rfl), (Nat.le_of_ble_eq_true rfl), (Nat.le_of_ble_eq_true rfl)⟩ [0] _ (by decide : [0].Perm (List.range 1)) rfl (by decide : [0].Perm (List.range 1)) rfl (Nat.le_of_ble_eq_true rfl) rfl ?_
  have hf := Option.some.inj hf
  subst hf
  exact g_iret X hr dX8_leftOf_7
abbrev rmX8_gather : Room := ({ frames := 4, cells := 0, slots := 0, locals := 94 } : Room)
def f_X8_gather_B7_b48 (v0 : MOv) (v7 : Fn) (w0 : Fn) (x2 : Int32) : Option ((Int32 × MOv × Fn) ⊕ ((MOv × Fn))) :=
  some (.inl ((x2 + (1 : Int32)), v0, v7))
set_option maxRecDepth 100000 in
set_option maxHeartbeats 4000000 in
theorem j_X8_gather_B7_b48 {p : Program} {l : Launch} {e : Env} {s : State} {m : MethodId} {args : Array Value} {below : List Frame} {meth : Method} {c : Code} {A : Nat → Prop} {D : va_G} {cy : Nat → ClassId} {ad : (Nat → Nat) × (Nat → Nat)} {Q : State → Prop} (X : gK p s m args meth c A D cy ad cX8_gather 3 RX8) (hr : meth.sig.returnType = none) {h0 h1 h2 h3 h4 h5 h6 h7 h8 g0 : Nat} (v0 : MOv) (v7 : Fn) (w0 : Fn) (x2 : Int32) {q : (Int32 × MOv × Fn) ⊕ ((MOv × Fn))} (hf : f_X8_gather_B7_b48 v0 v7 w0 x2 = some q) (K1 : ∀ s' : Int32 × MOv × Fn, q = .inl s' → GW p l e rmX8_gather s m args below meth c A D 3 0 0 Q 7 [(0, .ref h0), (1, .ref g0), (2, .int s'.1)] [] [MO h0 h1 h2 h3 h4 h5 h6 h7 h8 (s'.2.1.1, s'.2.1.2.1, s'.2.1.2.2.1, s'.2.1.2.2.2.1, s'.2.1.2.2.2.2.1, s'.2.1.2.2.2.2.2), AI cy 75 h7 s'.2.2, AI cy 107 g0 w0]) (K2 : ∀ e' : MOv × Fn, q = .inr (e') → GW p l e rmX8_gather s m args below meth c A D 3 0 0 Q 54 [] [] [MO h0 h1 h2 h3 h4 h5 h6 h7 h8 (e'.1.1, e'.1.2.1, e'.1.2.2.1, e'.1.2.2.2.1, e'.1.2.2.2.2.1, e'.1.2.2.2.2.2), AI cy 75 h7 e'.2, AI cy 107 g0 w0]) : GW p l e rmX8_gather s m args below meth c A D 3 0 0 Q 48 [(0, .ref h0), (1, .ref g0), (2, .int x2)] [] [MO h0 h1 h2 h3 h4 h5 h6 h7 h8 v0, AI cy 75 h7 v7, AI cy 107 g0 w0] := by
  unfold f_X8_gather_B7_b48 at hf
  refine g_iinc (lv' := [(0, .ref h0), (1, .ref g0), (2, .int (x2 + (1 : Int32)))]) (v := (1 : Int32)) X dX8_gather_48 2 rfl (by decide) [1, 2, 0] (Nat.le_of_ble_eq_true rfl) rfl ?_
  refine g_goto X 7 dX8_gather_51 (by decide) ?_
  exact K1 ((x2 + (1 : Int32)), v0, v7) (Option.some.inj hf).symm
def f_X8_gather_B7 (w0 : Fn) (z : Int32 × MOv × Fn) : Option ((Int32 × MOv × Fn) ⊕ ((MOv × Fn))) :=
  (f_X8_allOf (w0 (0 : Int32).toNatClampNeg)).bind (fun q351 => if q351 ≤ z.1 then some (.inr ((z.2.1, z.2.2))) else (f_X8_fits w0 z.1 (w0 (4 : Int32).toNatClampNeg)).bind (fun q352 => if (b2i q352) = 0 then f_X8_gather_B7_b48 z.2.1 z.2.2 w0 z.1 else if z.2.1.2.2.2.1 < 0 ∨ 75 ≤ z.2.1.2.2.2.1.toNatClampNeg then none else f_X8_gather_B7_b48 (z.2.1.1, z.2.1.2.1, z.2.1.2.2.1, (z.2.1.2.2.2.1 + (1 : Int32)), z.2.1.2.2.2.2.1, z.2.1.2.2.2.2.2) (upd z.2.2 z.2.1.2.2.2.1.toNatClampNeg z.1) w0 z.1))
set_option maxRecDepth 100000 in
set_option maxHeartbeats 4000000 in
theorem b_X8_gather_B7 {p : Program} {l : Launch} {e : Env} {s : State} {m : MethodId} {args : Array Value} {below : List Frame} {meth : Method} {c : Code} {A : Nat → Prop} {D : va_G} {cy : Nat → ClassId} {ad : (Nat → Nat) × (Nat → Nat)} {Q : State → Prop} (X : gK p s m args meth c A D cy ad cX8_gather 3 RX8) (hr : meth.sig.returnType = none) {h0 h1 h2 h3 h4 h5 h6 h7 h8 g0 : Nat} (w0 : Fn) (z : Int32 × MOv × Fn) {q : (Int32 × MOv × Fn) ⊕ ((MOv × Fn))} (hf : f_X8_gather_B7 w0 z = some q) (K1 : ∀ s' : Int32 × MOv × Fn, q = .inl s' → GW p l e rmX8_gather s m args below meth c A D 3 0 0 Q 7 [(0, .ref h0), (1, .ref g0), (2, .int s'.1)] [] [MO h0 h1 h2 h3 h4 h5 h6 h7 h8 (s'.2.1.1, s'.2.1.2.1, s'.2.1.2.2.1, s'.2.1.2.2.2.1, s'.2.1.2.2.2.2.1, s'.2.1.2.2.2.2.2), AI cy 75 h7 s'.2.2, AI cy 107 g0 w0]) (K2 : ∀ e' : MOv × Fn, q = .inr (e') → GW p l e rmX8_gather s m args below meth c A D 3 0 0 Q 54 [] [] [MO h0 h1 h2 h3 h4 h5 h6 h7 h8 (e'.1.1, e'.1.2.1, e'.1.2.2.1, e'.1.2.2.2.1, e'.1.2.2.2.2.1, e'.1.2.2.2.2.2), AI cy 75 h7 e'.2, AI cy 107 g0 w0]) : GW p l e rmX8_gather s m args below meth c A D 3 0 0 Q 7 [(0, .ref h0), (1, .ref g0), (2, .int z.1)] [] [MO h0 h1 h2 h3 h4 h5 h6 h7 h8 z.2.1, AI cy 75 h7 z.2.2, AI cy 107 g0 w0] := by
  unfold f_X8_gather_B7 at hf
  refine g_iload_n X dX8_gather_7 2 rfl rfl ?_
  refine g_aload_n X dX8_gather_8 1 rfl rfl ?_
  refine g_iconst X (0 : Int32) dX8_gather_9 (by decide) ?_
  refine g_iaload X dX8_gather_10 2 0 rfl rfl (by decide) ?_
  obtain ⟨q351, hq351, hf⟩ := obind hf
  refine g_callS (gs' := [MO h0 h1 h2 h3 h4 h5 h6 h7 h8 z.2.1, AI cy 75 h7 z.2.2, AI cy 107 g0 w0]) (rest := [.int z.1]) X dX8_gather_11 (c_X8_allOf l D cy ad (w0 (0 : Int32).toNatClampNeg) hq351) mf_X8_allOf ms_X8_allOf lkm_X8_72 ⟨(Nat.le_of_ble_eq_true rfl), (Nat.le_of_ble_eq_true rfl), (Nat.le_of_ble_eq_true rfl), (Nat.le_of_ble_eq_true rfl)⟩ [0, 1, 2] _ (by decide : [0, 1, 2].Perm (List.range 3)) rfl (by decide : [0, 1, 2].Perm (List.range 3)) rfl (Nat.le_of_ble_eq_true rfl) rfl ?_
  refine g_icmp_ge X 54 dX8_gather_14 (by decide) (fun c355 => ?_) (fun c355 => ?_)
  · have hf := opos c355 hf
    refine g_sub [] (lv' := []) rfl ?_
    exact K2 (z.2.1, z.2.2) (Option.some.inj hf).symm
  · have hf := oneg c355 hf
    refine g_aload_n X dX8_gather_17 1 rfl rfl ?_
    refine g_iload_n X dX8_gather_18 2 rfl rfl ?_
    refine g_aload_n X dX8_gather_19 1 rfl rfl ?_
    refine g_iconst X (4 : Int32) dX8_gather_20 (by decide) ?_
    refine g_iaload X dX8_gather_21 2 0 rfl rfl (by decide) ?_
    obtain ⟨q352, hq352, hf⟩ := obind hf
    refine g_callS (gs' := [MO h0 h1 h2 h3 h4 h5 h6 h7 h8 z.2.1, AI cy 75 h7 z.2.2, AI cy 107 g0 w0]) (rest := []) X dX8_gather_22 (c_X8_fits l D cy ad g0 w0 z.1 (w0 (4 : Int32).toNatClampNeg) hq352) mf_X8_fits ms_X8_fits lkm_X8_75 ⟨(Nat.le_of_ble_eq_true rfl), (Nat.le_of_ble_eq_true rfl), (Nat.le_of_ble_eq_true rfl), (Nat.le_of_ble_eq_true rfl)⟩ [2, 0, 1] _ (by decide : [2, 0, 1].Perm (List.range 3)) rfl (by decide : [2, 0, 1].Perm (List.range 3)) rfl (Nat.le_of_ble_eq_true rfl) rfl ?_
    refine g_if_eq X 48 dX8_gather_25 (by decide) (fun c354 => ?_) (fun c354 => ?_)
    · have hf := opos c354 hf
      exact j_X8_gather_B7_b48 X hr z.2.1 z.2.2 w0 z.1 hf K1 K2
    · have hf := oneg c354 hf
      refine g_aload_n X dX8_gather_28 0 rfl rfl ?_
      refine g_get X dX8_gather_29 ck_X8 0 0 9 rfl rfl (Nat.le_of_ble_eq_true rfl) lkf_X8_29 rfl ?_
      refine g_aload_n X dX8_gather_32 0 rfl rfl ?_
      refine g_get X dX8_gather_33 ck_X8 0 0 10 rfl rfl (Nat.le_of_ble_eq_true rfl) lkf_X8_83 rfl ?_
      refine g_iload_n X dX8_gather_36 2 rfl rfl ?_
      obtain ⟨n353, hf⟩ := oguard hf
      refine g_iastore (gs' := [MO h0 h1 h2 h3 h4 h5 h6 h7 h8 z.2.1, AI cy 75 h7 (upd z.2.2 z.2.1.2.2.2.1.toNatClampNeg z.1), AI cy 107 g0 w0]) X dX8_gather_37 1 0 rfl rfl n353 rfl ?_
      refine g_aload_n X dX8_gather_38 0 rfl rfl ?_
      refine g_dup X dX8_gather_39 rfl ?_
      refine g_get X dX8_gather_40 ck_X8 0 0 10 rfl rfl (Nat.le_of_ble_eq_true rfl) lkf_X8_83 rfl ?_
      refine g_iconst X (1 : Int32) dX8_gather_43 (by decide) ?_
      refine g_iadd X dX8_gather_44 ?_
      refine g_put (gs' := [MO h0 h1 h2 h3 h4 h5 h6 h7 h8 (z.2.1.1, z.2.1.2.1, z.2.1.2.2.1, (z.2.1.2.2.2.1 + (1 : Int32)), z.2.1.2.2.2.2.1, z.2.1.2.2.2.2.2), AI cy 75 h7 (upd z.2.2 z.2.1.2.2.2.1.toNatClampNeg z.1), AI cy 107 g0 w0]) X dX8_gather_45 ck_X8 ct_X8 0 0 10 rfl rfl (Nat.le_of_ble_eq_true rfl) lkf_X8_83 rfl rfl rfl (Nat.le_of_ble_eq_true rfl) rfl ?_
      exact j_X8_gather_B7_b48 X hr (z.2.1.1, z.2.1.2.1, z.2.1.2.2.1, (z.2.1.2.2.2.1 + (1 : Int32)), z.2.1.2.2.2.2.1, z.2.1.2.2.2.2.2) (upd z.2.2 z.2.1.2.2.2.1.toNatClampNeg z.1) w0 z.1 hf K1 K2
set_option maxRecDepth 100000 in
set_option maxHeartbeats 4000000 in
theorem w_X8_gather_B7 {p : Program} {l : Launch} {e : Env} {s : State} {m : MethodId} {args : Array Value} {below : List Frame} {meth : Method} {c : Code} {A : Nat → Prop} {D : va_G} {cy : Nat → ClassId} {ad : (Nat → Nat) × (Nat → Nat)} {Q : State → Prop} (X : gK p s m args meth c A D cy ad cX8_gather 3 RX8) (hr : meth.sig.returnType = none) {h0 h1 h2 h3 h4 h5 h6 h7 h8 g0 : Nat} (w0 : Fn) {n : Nat} {z : Int32 × MOv × Fn} {q : (MOv × Fn)} (hf : itl (f_X8_gather_B7 w0) n z = some q) (K2 : GW p l e rmX8_gather s m args below meth c A D 3 0 0 Q 54 [] [] [MO h0 h1 h2 h3 h4 h5 h6 h7 h8 q.1, AI cy 75 h7 q.2, AI cy 107 g0 w0]) : GW p l e rmX8_gather s m args below meth c A D 3 0 0 Q 7 [(0, .ref h0), (1, .ref g0), (2, .int z.1)] [] [MO h0 h1 h2 h3 h4 h5 h6 h7 h8 z.2.1, AI cy 75 h7 z.2.2, AI cy 107 g0 w0] :=
  itl_ind (f := f_X8_gather_B7 w0) (I := fun z => GW p l e rmX8_gather s m args below meth c A D 3 0 0 Q 7 [(0, .ref h0), (1, .ref g0), (2, .int z.1)] [] [MO h0 h1 h2 h3 h4 h5 h6 h7 h8 z.2.1, AI cy 75 h7 z.2.2, AI cy 107 g0 w0]) (J := (fun q => GW p l e rmX8_gather s m args below meth c A D 3 0 0 Q 54 [] [] [MO h0 h1 h2 h3 h4 h5 h6 h7 h8 q.1, AI cy 75 h7 q.2, AI cy 107 g0 w0])) (fun z x h k1 k2 => b_X8_gather_B7 X hr w0 z h (fun s' hs => k1 s' hs) (fun e' he => k2 e' he)) n z q hf K2
def f_X8_gather (v0 : MOv) (v7 : Fn) (w0 : Fn) : Option (MOv × Fn) :=
  (itl (f_X8_gather_B7 w0) FU ((0 : Int32), (v0.1, v0.2.1, v0.2.2.1, (0 : Int32), v0.2.2.2.2.1, v0.2.2.2.2.2), v7)).bind (fun q356 => some (q356.1, q356.2))
set_option maxRecDepth 100000 in
set_option maxHeartbeats 4000000 in
theorem c_X8_gather (l : Launch) (D : va_G) (cy : Nat → ClassId) (ad : (Nat → Nat) × (Nat → Nat)) (h0 h1 h2 h3 h4 h5 h6 h7 h8 g0 : Nat) (v0 : MOv) (v7 : Fn) (w0 : Fn) {q : MOv × Fn} (hf : f_X8_gather v0 v7 w0 = some q) : CM l yX8_gather cX8_gather 3 none rmX8_gather D cy ad [.ref h0, .ref g0] [MO h0 h1 h2 h3 h4 h5 h6 h7 h8 v0, AI cy 75 h7 v7, AI cy 107 g0 w0] none [MO h0 h1 h2 h3 h4 h5 h6 h7 h8 q.1, AI cy 75 h7 q.2, AI cy 107 g0 w0] := by
  refine cm_of (lv0 := [(0, .ref h0), (1, .ref g0)]) (by decide) (Nat.le_of_ble_eq_true rfl) rfl ?_
  intro p e s m args below meth c A X hr hn
  have X : gK p s m args meth c A D cy ad cX8_gather 3 RX8 := X
  unfold f_X8_gather at hf
  refine g_aload_n X dX8_gather_0 0 rfl rfl ?_
  refine g_iconst X (0 : Int32) dX8_gather_1 (by decide) ?_
  refine g_put (gs' := [MO h0 h1 h2 h3 h4 h5 h6 h7 h8 (v0.1, v0.2.1, v0.2.2.1, (0 : Int32), v0.2.2.2.2.1, v0.2.2.2.2.2), AI cy 75 h7 v7, AI cy 107 g0 w0]) X dX8_gather_2 ck_X8 ct_X8 0 0 10 rfl rfl (Nat.le_of_ble_eq_true rfl) lkf_X8_83 rfl rfl rfl (Nat.le_of_ble_eq_true rfl) rfl ?_
  refine g_iconst X (0 : Int32) dX8_gather_5 (by decide) ?_
  refine g_istore_n (lv' := [(0, .ref h0), (1, .ref g0), (2, .int (0 : Int32))]) X dX8_gather_6 [1, 2, 0] rfl (Nat.le_of_ble_eq_true rfl) rfl ?_
  obtain ⟨q356, hq356, hf⟩ := obind hf
  refine w_X8_gather_B7 X hr w0 hq356 ?_
  have hf := Option.some.inj hf
  subst hf
  exact g_vret X hr dX8_gather_54
abbrev rmX8_worst : Room := ({ frames := 3, cells := 0, slots := 0, locals := 70 } : Room)
def f_X8_worst_B24 (v0 : MOv) (v7 : Fn) (x1 : Int32) (x2 : Int32) (x3 : Int32) (x4 : Int32) (z : Int32 × Fn) : Option ((Int32 × Fn) ⊕ ((Fn))) :=
  if v0.2.2.2.1 ≤ z.1 then some (.inr ((z.2))) else if z.1 < 0 ∨ 75 ≤ z.1.toNatClampNeg then none else (f_X8_outcome x1 x2 x3 x4 (v7 z.1.toNatClampNeg)).bind (fun q364 => if q364 < 0 ∨ 3 ≤ q364.toNatClampNeg then none else if q364 < 0 ∨ 3 ≤ q364.toNatClampNeg then none else some (.inl ((z.1 + (1 : Int32)), (upd z.2 q364.toNatClampNeg ((z.2 q364.toNatClampNeg) + (1 : Int32))))))
set_option maxRecDepth 100000 in
set_option maxHeartbeats 4000000 in
theorem b_X8_worst_B24 {p : Program} {l : Launch} {e : Env} {s : State} {m : MethodId} {args : Array Value} {below : List Frame} {meth : Method} {c : Code} {A : Nat → Prop} {D : va_G} {cy : Nat → ClassId} {ad : (Nat → Nat) × (Nat → Nat)} {Q : State → Prop} (X : gK p s m args meth c A D cy ad cX8_worst 6 RX8) (hr : meth.sig.returnType = (some .int)) {h0 h1 h2 h3 h4 h5 h6 h7 h8 : Nat} (v0 : MOv) (v7 : Fn) (x1 : Int32) (x2 : Int32) (x3 : Int32) (x4 : Int32) (z : Int32 × Fn) {q : (Int32 × Fn) ⊕ ((Fn))} (hf : f_X8_worst_B24 v0 v7 x1 x2 x3 x4 z = some q) (K1 : ∀ s' : Int32 × Fn, q = .inl s' → GW p l e rmX8_worst s m args below meth c A D 6 0 0 Q 24 [(0, .ref h0), (1, .int x1), (2, .int x2), (3, .int x3), (4, .int x4), (5, .int s'.1)] [] [MO h0 h1 h2 h3 h4 h5 h6 h7 h8 v0, AI cy 75 h7 v7, AI cy 3 h8 s'.2]) (K2 : ∀ e' : Fn, q = .inr (e') → GW p l e rmX8_worst s m args below meth c A D 6 0 0 Q 63 [(0, .ref h0)] [] [MO h0 h1 h2 h3 h4 h5 h6 h7 h8 v0, AI cy 75 h7 v7, AI cy 3 h8 e']) : GW p l e rmX8_worst s m args below meth c A D 6 0 0 Q 24 [(0, .ref h0), (1, .int x1), (2, .int x2), (3, .int x3), (4, .int x4), (5, .int z.1)] [] [MO h0 h1 h2 h3 h4 h5 h6 h7 h8 v0, AI cy 75 h7 v7, AI cy 3 h8 z.2] := by
  unfold f_X8_worst_B24 at hf
  refine g_iload X dX8_worst_24 5 rfl ?_
  refine g_aload_n X dX8_worst_26 0 rfl rfl ?_
  refine g_get X dX8_worst_27 ck_X8 0 0 10 rfl rfl (Nat.le_of_ble_eq_true rfl) lkf_X8_83 rfl ?_
  refine g_icmp_ge X 63 dX8_worst_30 (by decide) (fun c367 => ?_) (fun c367 => ?_)
  · have hf := opos c367 hf
    refine g_sub [0] (lv' := [(0, .ref h0)]) rfl ?_
    exact K2 (z.2) (Option.some.inj hf).symm
  · have hf := oneg c367 hf
    refine g_aload_n X dX8_worst_33 0 rfl rfl ?_
    refine g_get X dX8_worst_34 ck_X8 0 0 11 rfl rfl (Nat.le_of_ble_eq_true rfl) lkf_X8_32 rfl ?_
    refine g_iload_n X dX8_worst_37 1 rfl rfl ?_
    refine g_iload_n X dX8_worst_38 2 rfl rfl ?_
    refine g_iload_n X dX8_worst_39 3 rfl rfl ?_
    refine g_iload X dX8_worst_40 4 rfl ?_
    refine g_aload_n X dX8_worst_42 0 rfl rfl ?_
    refine g_get X dX8_worst_43 ck_X8 0 0 9 rfl rfl (Nat.le_of_ble_eq_true rfl) lkf_X8_29 rfl ?_
    refine g_iload X dX8_worst_46 5 rfl ?_
    obtain ⟨n363, hf⟩ := oguard hf
    refine g_iaload X dX8_worst_48 1 0 rfl rfl n363 ?_
    obtain ⟨q364, hq364, hf⟩ := obind hf
    refine g_callS (gs' := [MO h0 h1 h2 h3 h4 h5 h6 h7 h8 v0, AI cy 75 h7 v7, AI cy 3 h8 z.2]) (rest := [.ref h8]) X dX8_worst_49 (c_X8_outcome l D cy ad x1 x2 x3 x4 (v7 z.1.toNatClampNeg) hq364) mf_X8_outcome ms_X8_outcome lkm_X8_68 ⟨(Nat.le_of_ble_eq_true rfl), (Nat.le_of_ble_eq_true rfl), (Nat.le_of_ble_eq_true rfl), (Nat.le_of_ble_eq_true rfl)⟩ [0, 1, 2] _ (by decide : [0, 1, 2].Perm (List.range 3)) rfl (by decide : [0, 1, 2].Perm (List.range 3)) rfl (Nat.le_of_ble_eq_true rfl) rfl ?_
    refine g_dup2 X dX8_worst_52 rfl rfl ?_
    obtain ⟨n365, hf⟩ := oguard hf
    refine g_iaload X dX8_worst_53 2 0 rfl rfl n365 ?_
    refine g_iconst X (1 : Int32) dX8_worst_54 (by decide) ?_
    refine g_iadd X dX8_worst_55 ?_
    obtain ⟨n366, hf⟩ := oguard hf
    refine g_iastore (gs' := [MO h0 h1 h2 h3 h4 h5 h6 h7 h8 v0, AI cy 75 h7 v7, AI cy 3 h8 (upd z.2 q364.toNatClampNeg ((z.2 q364.toNatClampNeg) + (1 : Int32)))]) X dX8_worst_56 2 0 rfl rfl n366 rfl ?_
    refine g_iinc (lv' := [(0, .ref h0), (1, .int x1), (2, .int x2), (3, .int x3), (4, .int x4), (5, .int (z.1 + (1 : Int32)))]) (v := (1 : Int32)) X dX8_worst_57 5 rfl (by decide) [1, 2, 3, 4, 5, 0] (Nat.le_of_ble_eq_true rfl) rfl ?_
    refine g_goto X 24 dX8_worst_60 (by decide) ?_
    exact K1 ((z.1 + (1 : Int32)), (upd z.2 q364.toNatClampNeg ((z.2 q364.toNatClampNeg) + (1 : Int32)))) (Option.some.inj hf).symm
set_option maxRecDepth 100000 in
set_option maxHeartbeats 4000000 in
theorem w_X8_worst_B24 {p : Program} {l : Launch} {e : Env} {s : State} {m : MethodId} {args : Array Value} {below : List Frame} {meth : Method} {c : Code} {A : Nat → Prop} {D : va_G} {cy : Nat → ClassId} {ad : (Nat → Nat) × (Nat → Nat)} {Q : State → Prop} (X : gK p s m args meth c A D cy ad cX8_worst 6 RX8) (hr : meth.sig.returnType = (some .int)) {h0 h1 h2 h3 h4 h5 h6 h7 h8 : Nat} (v0 : MOv) (v7 : Fn) (x1 : Int32) (x2 : Int32) (x3 : Int32) (x4 : Int32) {n : Nat} {z : Int32 × Fn} {q : (Fn)} (hf : itl (f_X8_worst_B24 v0 v7 x1 x2 x3 x4) n z = some q) (K2 : GW p l e rmX8_worst s m args below meth c A D 6 0 0 Q 63 [(0, .ref h0)] [] [MO h0 h1 h2 h3 h4 h5 h6 h7 h8 v0, AI cy 75 h7 v7, AI cy 3 h8 q]) : GW p l e rmX8_worst s m args below meth c A D 6 0 0 Q 24 [(0, .ref h0), (1, .int x1), (2, .int x2), (3, .int x3), (4, .int x4), (5, .int z.1)] [] [MO h0 h1 h2 h3 h4 h5 h6 h7 h8 v0, AI cy 75 h7 v7, AI cy 3 h8 z.2] :=
  itl_ind (f := f_X8_worst_B24 v0 v7 x1 x2 x3 x4) (I := fun z => GW p l e rmX8_worst s m args below meth c A D 6 0 0 Q 24 [(0, .ref h0), (1, .int x1), (2, .int x2), (3, .int x3), (4, .int x4), (5, .int z.1)] [] [MO h0 h1 h2 h3 h4 h5 h6 h7 h8 v0, AI cy 75 h7 v7, AI cy 3 h8 z.2]) (J := (fun q => GW p l e rmX8_worst s m args below meth c A D 6 0 0 Q 63 [(0, .ref h0)] [] [MO h0 h1 h2 h3 h4 h5 h6 h7 h8 v0, AI cy 75 h7 v7, AI cy 3 h8 q])) (fun z x h k1 k2 => b_X8_worst_B24 X hr v0 v7 x1 x2 x3 x4 z h (fun s' hs => k1 s' hs) (fun e' he => k2 e' he)) n z q hf K2
def f_X8_worst_b93 (v0 : MOv) (v7 : Fn) (v8 : Fn) (y0 : Int32) : Option (Int32 × Fn) :=
  if y0 ≤ (v8 (2 : Int32).toNatClampNeg) then some ((v8 (2 : Int32).toNatClampNeg), v8) else some (y0, v8)
set_option maxRecDepth 100000 in
set_option maxHeartbeats 4000000 in
theorem j_X8_worst_b93 {p : Program} {l : Launch} {e : Env} {s : State} {m : MethodId} {args : Array Value} {below : List Frame} {meth : Method} {c : Code} {A : Nat → Prop} {D : va_G} {cy : Nat → ClassId} {ad : (Nat → Nat) × (Nat → Nat)} (X : gK p s m args meth c A D cy ad cX8_worst 6 RX8) (hr : meth.sig.returnType = (some .int)) {h0 h1 h2 h3 h4 h5 h6 h7 h8 : Nat} (v0 : MOv) (v7 : Fn) (v8 : Fn) (y0 : Int32) {q : Int32 × Fn} (hf : f_X8_worst_b93 v0 v7 v8 y0 = some q) : GW p l e rmX8_worst s m args below meth c A D 6 0 0 (MQ below (cmQ D cy A (some (.int q.1)) ([MO h0 h1 h2 h3 h4 h5 h6 h7 h8 v0, AI cy 75 h7 v7, AI cy 3 h8 q.2] : List va_W).flatten) args s 0 0 A) 93 [(0, .ref h0)] [.int y0] [MO h0 h1 h2 h3 h4 h5 h6 h7 h8 v0, AI cy 75 h7 v7, AI cy 3 h8 v8] := by
  unfold f_X8_worst_b93 at hf
  refine g_istore (lv' := [(0, .ref h0), (5, .int y0)]) X dX8_worst_93 [1, 0] (Nat.le_of_ble_eq_true rfl) rfl ?_
  refine g_iload X dX8_worst_95 1 rfl ?_
  refine g_aload_n X dX8_worst_97 0 rfl rfl ?_
  refine g_get X dX8_worst_98 ck_X8 0 0 11 rfl rfl (Nat.le_of_ble_eq_true rfl) lkf_X8_32 rfl ?_
  refine g_iconst X (2 : Int32) dX8_worst_101 (by decide) ?_
  refine g_iaload X dX8_worst_102 2 0 rfl rfl (by decide) ?_
  refine g_icmp_le X 111 dX8_worst_103 (by decide) (fun c369 => ?_) (fun c369 => ?_)
  · have hf := opos c369 hf
    refine g_aload_n X dX8_worst_111 0 rfl rfl ?_
    refine g_get X dX8_worst_112 ck_X8 0 0 11 rfl rfl (Nat.le_of_ble_eq_true rfl) lkf_X8_32 rfl ?_
    refine g_iconst X (2 : Int32) dX8_worst_115 (by decide) ?_
    refine g_iaload X dX8_worst_116 2 0 rfl rfl (by decide) ?_
    have hf := Option.some.inj hf
    subst hf
    exact g_iret X hr dX8_worst_117
  · have hf := oneg c369 hf
    refine g_iload X dX8_worst_106 1 rfl ?_
    refine g_goto X 117 dX8_worst_108 (by decide) ?_
    have hf := Option.some.inj hf
    subst hf
    exact g_iret X hr dX8_worst_117
def f_X8_worst (v0 : MOv) (v7 : Fn) (v8 : Fn) (p1 : Int32) (p2 : Int32) (p3 : Int32) (p4 : Int32) : Option (Int32 × Fn) :=
  (itl (f_X8_worst_B24 v0 v7 p1 p2 p3 p4) FU ((0 : Int32), (upd (upd (upd v8 (0 : Int32).toNatClampNeg (0 : Int32)) (1 : Int32).toNatClampNeg (0 : Int32)) (2 : Int32).toNatClampNeg (0 : Int32)))).bind (fun q368 => if (q368 (0 : Int32).toNatClampNeg) ≤ (q368 (1 : Int32).toNatClampNeg) then f_X8_worst_b93 v0 v7 q368 (q368 (1 : Int32).toNatClampNeg) else f_X8_worst_b93 v0 v7 q368 (q368 (0 : Int32).toNatClampNeg))
set_option maxRecDepth 100000 in
set_option maxHeartbeats 4000000 in
theorem c_X8_worst (l : Launch) (D : va_G) (cy : Nat → ClassId) (ad : (Nat → Nat) × (Nat → Nat)) (h0 h1 h2 h3 h4 h5 h6 h7 h8 : Nat) (v0 : MOv) (v7 : Fn) (v8 : Fn) (p1 : Int32) (p2 : Int32) (p3 : Int32) (p4 : Int32) {q : Int32 × Fn} (hf : f_X8_worst v0 v7 v8 p1 p2 p3 p4 = some q) : CM l yX8_worst cX8_worst 6 (some .int) rmX8_worst D cy ad [.ref h0, .int p1, .int p2, .int p3, .int p4] [MO h0 h1 h2 h3 h4 h5 h6 h7 h8 v0, AI cy 75 h7 v7, AI cy 3 h8 v8] (some (.int q.1)) [MO h0 h1 h2 h3 h4 h5 h6 h7 h8 v0, AI cy 75 h7 v7, AI cy 3 h8 q.2] := by
  refine cm_of (lv0 := [(0, .ref h0), (1, .int p1), (2, .int p2), (3, .int p3), (4, .int p4)]) (by decide) (Nat.le_of_ble_eq_true rfl) rfl ?_
  intro p e s m args below meth c A X hr hn
  have X : gK p s m args meth c A D cy ad cX8_worst 6 RX8 := X
  unfold f_X8_worst at hf
  refine g_aload_n X dX8_worst_0 0 rfl rfl ?_
  refine g_get X dX8_worst_1 ck_X8 0 0 11 rfl rfl (Nat.le_of_ble_eq_true rfl) lkf_X8_32 rfl ?_
  refine g_iconst X (0 : Int32) dX8_worst_4 (by decide) ?_
  refine g_iconst X (0 : Int32) dX8_worst_5 (by decide) ?_
  refine g_iastore (gs' := [MO h0 h1 h2 h3 h4 h5 h6 h7 h8 v0, AI cy 75 h7 v7, AI cy 3 h8 (upd v8 (0 : Int32).toNatClampNeg (0 : Int32))]) X dX8_worst_6 2 0 rfl rfl (by decide) rfl ?_
  refine g_aload_n X dX8_worst_7 0 rfl rfl ?_
  refine g_get X dX8_worst_8 ck_X8 0 0 11 rfl rfl (Nat.le_of_ble_eq_true rfl) lkf_X8_32 rfl ?_
  refine g_iconst X (1 : Int32) dX8_worst_11 (by decide) ?_
  refine g_iconst X (0 : Int32) dX8_worst_12 (by decide) ?_
  refine g_iastore (gs' := [MO h0 h1 h2 h3 h4 h5 h6 h7 h8 v0, AI cy 75 h7 v7, AI cy 3 h8 (upd (upd v8 (0 : Int32).toNatClampNeg (0 : Int32)) (1 : Int32).toNatClampNeg (0 : Int32))]) X dX8_worst_13 2 0 rfl rfl (by decide) rfl ?_
  refine g_aload_n X dX8_worst_14 0 rfl rfl ?_
  refine g_get X dX8_worst_15 ck_X8 0 0 11 rfl rfl (Nat.le_of_ble_eq_true rfl) lkf_X8_32 rfl ?_
  refine g_iconst X (2 : Int32) dX8_worst_18 (by decide) ?_
  refine g_iconst X (0 : Int32) dX8_worst_19 (by decide) ?_
  refine g_iastore (gs' := [MO h0 h1 h2 h3 h4 h5 h6 h7 h8 v0, AI cy 75 h7 v7, AI cy 3 h8 (upd (upd (upd v8 (0 : Int32).toNatClampNeg (0 : Int32)) (1 : Int32).toNatClampNeg (0 : Int32)) (2 : Int32).toNatClampNeg (0 : Int32))]) X dX8_worst_20 2 0 rfl rfl (by decide) rfl ?_
  refine g_iconst X (0 : Int32) dX8_worst_21 (by decide) ?_
  refine g_istore (lv' := [(0, .ref h0), (1, .int p1), (2, .int p2), (3, .int p3), (4, .int p4), (5, .int (0 : Int32))]) X dX8_worst_22 [1, 2, 3, 4, 5, 0] (Nat.le_of_ble_eq_true rfl) rfl ?_
  obtain ⟨q368, hq368, hf⟩ := obind hf
  refine w_X8_worst_B24 X hr v0 v7 p1 p2 p3 p4 hq368 ?_
  refine g_aload_n X dX8_worst_63 0 rfl rfl ?_
  refine g_get X dX8_worst_64 ck_X8 0 0 11 rfl rfl (Nat.le_of_ble_eq_true rfl) lkf_X8_32 rfl ?_
  refine g_iconst X (0 : Int32) dX8_worst_67 (by decide) ?_
  refine g_iaload X dX8_worst_68 2 0 rfl rfl (by decide) ?_
  refine g_aload_n X dX8_worst_69 0 rfl rfl ?_
  refine g_get X dX8_worst_70 ck_X8 0 0 11 rfl rfl (Nat.le_of_ble_eq_true rfl) lkf_X8_32 rfl ?_
  refine g_iconst X (1 : Int32) dX8_worst_73 (by decide) ?_
  refine g_iaload X dX8_worst_74 2 0 rfl rfl (by decide) ?_
  refine g_icmp_le X 87 dX8_worst_75 (by decide) (fun c370 => ?_) (fun c370 => ?_)
  · have hf := opos c370 hf
    refine g_aload_n X dX8_worst_87 0 rfl rfl ?_
    refine g_get X dX8_worst_88 ck_X8 0 0 11 rfl rfl (Nat.le_of_ble_eq_true rfl) lkf_X8_32 rfl ?_
    refine g_iconst X (1 : Int32) dX8_worst_91 (by decide) ?_
    refine g_iaload X dX8_worst_92 2 0 rfl rfl (by decide) ?_
    exact j_X8_worst_b93 X hr v0 v7 q368 (q368 (1 : Int32).toNatClampNeg) hf
  · have hf := oneg c370 hf
    refine g_aload_n X dX8_worst_78 0 rfl rfl ?_
    refine g_get X dX8_worst_79 ck_X8 0 0 11 rfl rfl (Nat.le_of_ble_eq_true rfl) lkf_X8_32 rfl ?_
    refine g_iconst X (0 : Int32) dX8_worst_82 (by decide) ?_
    refine g_iaload X dX8_worst_83 2 0 rfl rfl (by decide) ?_
    refine g_goto X 93 dX8_worst_84 (by decide) ?_
    exact j_X8_worst_b93 X hr v0 v7 q368 (q368 (0 : Int32).toNatClampNeg) hf
abbrev rmX8_coinOf : Room := ({ frames := 4, cells := 0, slots := 0, locals := 94 } : Room)
def f_X8_coinOf_B4_b53 (w0 : Fn) (x1 : Int32) (x2 : Int32) (x3 : Int32) : Option ((Int32 × Int32) ⊕ ((Int32))) :=
  some (.inl (x2, (x3 + (1 : Int32))))
set_option maxRecDepth 100000 in
set_option maxHeartbeats 4000000 in
theorem j_X8_coinOf_B4_b53 {p : Program} {l : Launch} {e : Env} {s : State} {m : MethodId} {args : Array Value} {below : List Frame} {meth : Method} {c : Code} {A : Nat → Prop} {D : va_G} {cy : Nat → ClassId} {ad : (Nat → Nat) × (Nat → Nat)} {Q : State → Prop} (X : gK p s m args meth c A D cy ad cX8_coinOf 4 RX8) (hr : meth.sig.returnType = (some .int)) {g0 : Nat} (w0 : Fn) (x1 : Int32) (x2 : Int32) (x3 : Int32) {q : (Int32 × Int32) ⊕ ((Int32))} (hf : f_X8_coinOf_B4_b53 w0 x1 x2 x3 = some q) (K1 : ∀ s' : Int32 × Int32, q = .inl s' → GW p l e rmX8_coinOf s m args below meth c A D 4 0 0 Q 4 [(0, .ref g0), (1, .int x1), (2, .int s'.1), (3, .int s'.2)] [] [AI cy 107 g0 w0]) (K2 : ∀ e' : Int32, q = .inr (e') → GW p l e rmX8_coinOf s m args below meth c A D 4 0 0 Q 59 [(2, .int e')] [] [AI cy 107 g0 w0]) : GW p l e rmX8_coinOf s m args below meth c A D 4 0 0 Q 53 [(0, .ref g0), (1, .int x1), (2, .int x2), (3, .int x3)] [] [AI cy 107 g0 w0] := by
  unfold f_X8_coinOf_B4_b53 at hf
  refine g_iinc (lv' := [(0, .ref g0), (1, .int x1), (2, .int x2), (3, .int (x3 + (1 : Int32)))]) (v := (1 : Int32)) X dX8_coinOf_53 3 rfl (by decide) [1, 2, 3, 0] (Nat.le_of_ble_eq_true rfl) rfl ?_
  refine g_goto X 4 dX8_coinOf_56 (by decide) ?_
  exact K1 (x2, (x3 + (1 : Int32))) (Option.some.inj hf).symm
def f_X8_coinOf_B4_b51 (w0 : Fn) (x1 : Int32) (x3 : Int32) (y0 : Int32) (y1 : Int32) : Option ((Int32 × Int32) ⊕ ((Int32))) :=
  f_X8_coinOf_B4_b53 w0 x1 (y1 ||| y0) x3
set_option maxRecDepth 100000 in
set_option maxHeartbeats 4000000 in
theorem j_X8_coinOf_B4_b51 {p : Program} {l : Launch} {e : Env} {s : State} {m : MethodId} {args : Array Value} {below : List Frame} {meth : Method} {c : Code} {A : Nat → Prop} {D : va_G} {cy : Nat → ClassId} {ad : (Nat → Nat) × (Nat → Nat)} {Q : State → Prop} (X : gK p s m args meth c A D cy ad cX8_coinOf 4 RX8) (hr : meth.sig.returnType = (some .int)) {g0 : Nat} (w0 : Fn) (x1 : Int32) (x3 : Int32) (y0 : Int32) (y1 : Int32) {q : (Int32 × Int32) ⊕ ((Int32))} (hf : f_X8_coinOf_B4_b51 w0 x1 x3 y0 y1 = some q) (K1 : ∀ s' : Int32 × Int32, q = .inl s' → GW p l e rmX8_coinOf s m args below meth c A D 4 0 0 Q 4 [(0, .ref g0), (1, .int x1), (2, .int s'.1), (3, .int s'.2)] [] [AI cy 107 g0 w0]) (K2 : ∀ e' : Int32, q = .inr (e') → GW p l e rmX8_coinOf s m args below meth c A D 4 0 0 Q 59 [(2, .int e')] [] [AI cy 107 g0 w0]) : GW p l e rmX8_coinOf s m args below meth c A D 4 0 0 Q 51 [(0, .ref g0), (1, .int x1), (3, .int x3)] [.int y0, .int y1] [AI cy 107 g0 w0] := by
  unfold f_X8_coinOf_B4_b51 at hf
  refine g_ior X dX8_coinOf_51 ?_
  refine g_istore_n (lv' := [(0, .ref g0), (1, .int x1), (2, .int (y1 ||| y0)), (3, .int x3)]) X dX8_coinOf_52 [1, 2, 0, 3] rfl (Nat.le_of_ble_eq_true rfl) rfl ?_
  exact j_X8_coinOf_B4_b53 X hr w0 x1 (y1 ||| y0) x3 hf K1 K2
def f_X8_coinOf_B4 (w0 : Fn) (x1 : Int32) (z : Int32 × Int32) : Option ((Int32 × Int32) ⊕ ((Int32))) :=
  (f_X8_allOf (w0 (0 : Int32).toNatClampNeg)).bind (fun q375 => if q375 ≤ z.2 then some (.inr ((z.1))) else (f_X8_fits w0 z.2 (w0 (4 : Int32).toNatClampNeg)).bind (fun q376 => if (b2i q376) = 0 then f_X8_coinOf_B4_b53 w0 x1 z.1 z.2 else if (z.2 / (6 : Int32)) = x1 then if ((z.2 / (3 : Int32)) - (z.2 / (3 : Int32)) / (2 : Int32) * (2 : Int32)) = 0 then f_X8_coinOf_B4_b51 w0 x1 z.2 (1 : Int32) z.1 else f_X8_coinOf_B4_b51 w0 x1 z.2 (2 : Int32) z.1 else f_X8_coinOf_B4_b51 w0 x1 z.2 (4 : Int32) z.1))
set_option maxRecDepth 100000 in
set_option maxHeartbeats 4000000 in
theorem b_X8_coinOf_B4 {p : Program} {l : Launch} {e : Env} {s : State} {m : MethodId} {args : Array Value} {below : List Frame} {meth : Method} {c : Code} {A : Nat → Prop} {D : va_G} {cy : Nat → ClassId} {ad : (Nat → Nat) × (Nat → Nat)} {Q : State → Prop} (X : gK p s m args meth c A D cy ad cX8_coinOf 4 RX8) (hr : meth.sig.returnType = (some .int)) {g0 : Nat} (w0 : Fn) (x1 : Int32) (z : Int32 × Int32) {q : (Int32 × Int32) ⊕ ((Int32))} (hf : f_X8_coinOf_B4 w0 x1 z = some q) (K1 : ∀ s' : Int32 × Int32, q = .inl s' → GW p l e rmX8_coinOf s m args below meth c A D 4 0 0 Q 4 [(0, .ref g0), (1, .int x1), (2, .int s'.1), (3, .int s'.2)] [] [AI cy 107 g0 w0]) (K2 : ∀ e' : Int32, q = .inr (e') → GW p l e rmX8_coinOf s m args below meth c A D 4 0 0 Q 59 [(2, .int e')] [] [AI cy 107 g0 w0]) : GW p l e rmX8_coinOf s m args below meth c A D 4 0 0 Q 4 [(0, .ref g0), (1, .int x1), (2, .int z.1), (3, .int z.2)] [] [AI cy 107 g0 w0] := by
  unfold f_X8_coinOf_B4 at hf
  refine g_iload_n X dX8_coinOf_4 3 rfl rfl ?_
  refine g_aload_n X dX8_coinOf_5 0 rfl rfl ?_
  refine g_iconst X (0 : Int32) dX8_coinOf_6 (by decide) ?_
  refine g_iaload X dX8_coinOf_7 0 0 rfl rfl (by decide) ?_
  obtain ⟨q375, hq375, hf⟩ := obind hf
  refine g_callS (gs' := [AI cy 107 g0 w0]) (rest := [.int z.2]) X dX8_coinOf_8 (c_X8_allOf l D cy ad (w0 (0 : Int32).toNatClampNeg) hq375) mf_X8_allOf ms_X8_allOf lkm_X8_72 ⟨(Nat.le_of_ble_eq_true rfl), (Nat.le_of_ble_eq_true rfl), (Nat.le_of_ble_eq_true rfl), (Nat.le_of_ble_eq_true rfl)⟩ [0] _ (by decide : [0].Perm (List.range 1)) rfl (by decide : [0].Perm (List.range 1)) rfl (Nat.le_of_ble_eq_true rfl) rfl ?_
  refine g_icmp_ge X 59 dX8_coinOf_11 (by decide) (fun c380 => ?_) (fun c380 => ?_)
  · have hf := opos c380 hf
    refine g_sub [2] (lv' := [(2, .int z.1)]) rfl ?_
    exact K2 (z.1) (Option.some.inj hf).symm
  · have hf := oneg c380 hf
    refine g_aload_n X dX8_coinOf_14 0 rfl rfl ?_
    refine g_iload_n X dX8_coinOf_15 3 rfl rfl ?_
    refine g_aload_n X dX8_coinOf_16 0 rfl rfl ?_
    refine g_iconst X (4 : Int32) dX8_coinOf_17 (by decide) ?_
    refine g_iaload X dX8_coinOf_18 0 0 rfl rfl (by decide) ?_
    obtain ⟨q376, hq376, hf⟩ := obind hf
    refine g_callS (gs' := [AI cy 107 g0 w0]) (rest := []) X dX8_coinOf_19 (c_X8_fits l D cy ad g0 w0 z.2 (w0 (4 : Int32).toNatClampNeg) hq376) mf_X8_fits ms_X8_fits lkm_X8_75 ⟨(Nat.le_of_ble_eq_true rfl), (Nat.le_of_ble_eq_true rfl), (Nat.le_of_ble_eq_true rfl), (Nat.le_of_ble_eq_true rfl)⟩ [0] _ (by decide : [0].Perm (List.range 1)) rfl (by decide : [0].Perm (List.range 1)) rfl (Nat.le_of_ble_eq_true rfl) rfl ?_
    refine g_if_eq X 53 dX8_coinOf_22 (by decide) (fun c379 => ?_) (fun c379 => ?_)
    · have hf := opos c379 hf
      exact j_X8_coinOf_B4_b53 X hr w0 x1 z.1 z.2 hf K1 K2
    · have hf := oneg c379 hf
      refine g_iload_n X dX8_coinOf_25 2 rfl rfl ?_
      refine g_iload_n X dX8_coinOf_26 3 rfl rfl ?_
      refine g_bipush X (6 : Int32) dX8_coinOf_27 (by decide) ?_
      refine g_idiv X dX8_coinOf_29 (by decide) ?_
      refine g_iload_n X dX8_coinOf_30 1 rfl rfl ?_
      refine g_icmp_ne X 50 dX8_coinOf_31 (by decide) (fun c378 => ?_) (fun c378 => ?_)
      · have hf := oneg c378 hf
        refine g_iconst X (4 : Int32) dX8_coinOf_50 (by decide) ?_
        refine g_sub [0, 1, 3] (lv' := [(0, .ref g0), (1, .int x1), (3, .int z.2)]) rfl ?_
        exact j_X8_coinOf_B4_b51 X hr w0 x1 z.2 (4 : Int32) z.1 hf K1 K2
      · have hf := opos c378 hf
        refine g_iload_n X dX8_coinOf_34 3 rfl rfl ?_
        refine g_iconst X (3 : Int32) dX8_coinOf_35 (by decide) ?_
        refine g_idiv X dX8_coinOf_36 (by decide) ?_
        refine g_iconst X (2 : Int32) dX8_coinOf_37 (by decide) ?_
        refine g_irem X dX8_coinOf_38 (by decide) ?_
        refine g_if_ne X 46 dX8_coinOf_39 (by decide) (fun c377 => ?_) (fun c377 => ?_)
        · have hf := oneg c377 hf
          refine g_iconst X (2 : Int32) dX8_coinOf_46 (by decide) ?_
          refine g_goto X 51 dX8_coinOf_47 (by decide) ?_
          refine g_sub [0, 1, 3] (lv' := [(0, .ref g0), (1, .int x1), (3, .int z.2)]) rfl ?_
          exact j_X8_coinOf_B4_b51 X hr w0 x1 z.2 (2 : Int32) z.1 hf K1 K2
        · have hf := opos c377 hf
          refine g_iconst X (1 : Int32) dX8_coinOf_42 (by decide) ?_
          refine g_goto X 51 dX8_coinOf_43 (by decide) ?_
          refine g_sub [0, 1, 3] (lv' := [(0, .ref g0), (1, .int x1), (3, .int z.2)]) rfl ?_
          exact j_X8_coinOf_B4_b51 X hr w0 x1 z.2 (1 : Int32) z.1 hf K1 K2
set_option maxRecDepth 100000 in
set_option maxHeartbeats 4000000 in
theorem w_X8_coinOf_B4 {p : Program} {l : Launch} {e : Env} {s : State} {m : MethodId} {args : Array Value} {below : List Frame} {meth : Method} {c : Code} {A : Nat → Prop} {D : va_G} {cy : Nat → ClassId} {ad : (Nat → Nat) × (Nat → Nat)} {Q : State → Prop} (X : gK p s m args meth c A D cy ad cX8_coinOf 4 RX8) (hr : meth.sig.returnType = (some .int)) {g0 : Nat} (w0 : Fn) (x1 : Int32) {n : Nat} {z : Int32 × Int32} {q : (Int32)} (hf : itl (f_X8_coinOf_B4 w0 x1) n z = some q) (K2 : GW p l e rmX8_coinOf s m args below meth c A D 4 0 0 Q 59 [(2, .int q)] [] [AI cy 107 g0 w0]) : GW p l e rmX8_coinOf s m args below meth c A D 4 0 0 Q 4 [(0, .ref g0), (1, .int x1), (2, .int z.1), (3, .int z.2)] [] [AI cy 107 g0 w0] :=
  itl_ind (f := f_X8_coinOf_B4 w0 x1) (I := fun z => GW p l e rmX8_coinOf s m args below meth c A D 4 0 0 Q 4 [(0, .ref g0), (1, .int x1), (2, .int z.1), (3, .int z.2)] [] [AI cy 107 g0 w0]) (J := (fun q => GW p l e rmX8_coinOf s m args below meth c A D 4 0 0 Q 59 [(2, .int q)] [] [AI cy 107 g0 w0])) (fun z x h k1 k2 => b_X8_coinOf_B4 X hr w0 x1 z h (fun s' hs => k1 s' hs) (fun e' he => k2 e' he)) n z q hf K2
def f_X8_coinOf (w0 : Fn) (p1 : Int32) : Option (Int32) :=
  (itl (f_X8_coinOf_B4 w0 p1) FU ((0 : Int32), (0 : Int32))).bind (fun q381 => some q381)
set_option maxRecDepth 100000 in
set_option maxHeartbeats 4000000 in
theorem c_X8_coinOf (l : Launch) (D : va_G) (cy : Nat → ClassId) (ad : (Nat → Nat) × (Nat → Nat)) (g0 : Nat) (w0 : Fn) (p1 : Int32) {q : Int32} (hf : f_X8_coinOf w0 p1 = some q) : CM l yX8_coinOf cX8_coinOf 4 (some .int) rmX8_coinOf D cy ad [.ref g0, .int p1] [AI cy 107 g0 w0] (some (.int q)) [AI cy 107 g0 w0] := by
  refine cm_of (lv0 := [(0, .ref g0), (1, .int p1)]) (by decide) (Nat.le_of_ble_eq_true rfl) rfl ?_
  intro p e s m args below meth c A X hr hn
  have X : gK p s m args meth c A D cy ad cX8_coinOf 4 RX8 := X
  unfold f_X8_coinOf at hf
  refine g_iconst X (0 : Int32) dX8_coinOf_0 (by decide) ?_
  refine g_istore_n (lv' := [(0, .ref g0), (1, .int p1), (2, .int (0 : Int32))]) X dX8_coinOf_1 [1, 2, 0] rfl (Nat.le_of_ble_eq_true rfl) rfl ?_
  refine g_iconst X (0 : Int32) dX8_coinOf_2 (by decide) ?_
  refine g_istore_n (lv' := [(0, .ref g0), (1, .int p1), (2, .int (0 : Int32)), (3, .int (0 : Int32))]) X dX8_coinOf_3 [1, 2, 3, 0] rfl (Nat.le_of_ble_eq_true rfl) rfl ?_
  obtain ⟨q381, hq381, hf⟩ := obind hf
  refine w_X8_coinOf_B4 X hr w0 p1 hq381 ?_
  refine g_iload_n X dX8_coinOf_59 0 rfl rfl ?_
  have hf := Option.some.inj hf
  subst hf
  exact g_iret X hr dX8_coinOf_60
abbrev rmX8_pansOf : Room := ({ frames := 4, cells := 0, slots := 0, locals := 94 } : Room)
def f_X8_pansOf_B4_b35 (w0 : Fn) (x2 : Int32) (y0 : Int32) (y1 : Int32) : Option ((Int32 × Int32) ⊕ ((Int32))) :=
  some (.inl ((y1 ||| y0), (x2 + (1 : Int32))))
set_option maxRecDepth 100000 in
set_option maxHeartbeats 4000000 in
theorem j_X8_pansOf_B4_b35 {p : Program} {l : Launch} {e : Env} {s : State} {m : MethodId} {args : Array Value} {below : List Frame} {meth : Method} {c : Code} {A : Nat → Prop} {D : va_G} {cy : Nat → ClassId} {ad : (Nat → Nat) × (Nat → Nat)} {Q : State → Prop} (X : gK p s m args meth c A D cy ad cX8_pansOf 3 RX8) (hr : meth.sig.returnType = (some .int)) {g0 : Nat} (w0 : Fn) (x2 : Int32) (y0 : Int32) (y1 : Int32) {q : (Int32 × Int32) ⊕ ((Int32))} (hf : f_X8_pansOf_B4_b35 w0 x2 y0 y1 = some q) (K1 : ∀ s' : Int32 × Int32, q = .inl s' → GW p l e rmX8_pansOf s m args below meth c A D 3 0 0 Q 4 [(0, .ref g0), (1, .int s'.1), (2, .int s'.2)] [] [AI cy 107 g0 w0]) (K2 : ∀ e' : Int32, q = .inr (e') → GW p l e rmX8_pansOf s m args below meth c A D 3 0 0 Q 43 [(1, .int e')] [] [AI cy 107 g0 w0]) : GW p l e rmX8_pansOf s m args below meth c A D 3 0 0 Q 35 [(0, .ref g0), (2, .int x2)] [.int y0, .int y1] [AI cy 107 g0 w0] := by
  unfold f_X8_pansOf_B4_b35 at hf
  refine g_ior X dX8_pansOf_35 ?_
  refine g_istore_n (lv' := [(0, .ref g0), (1, .int (y1 ||| y0)), (2, .int x2)]) X dX8_pansOf_36 [1, 0, 2] rfl (Nat.le_of_ble_eq_true rfl) rfl ?_
  refine g_iinc (lv' := [(0, .ref g0), (1, .int (y1 ||| y0)), (2, .int (x2 + (1 : Int32)))]) (v := (1 : Int32)) X dX8_pansOf_37 2 rfl (by decide) [1, 2, 0] (Nat.le_of_ble_eq_true rfl) rfl ?_
  refine g_goto X 4 dX8_pansOf_40 (by decide) ?_
  exact K1 ((y1 ||| y0), (x2 + (1 : Int32))) (Option.some.inj hf).symm
def f_X8_pansOf_B4 (w0 : Fn) (z : Int32 × Int32) : Option ((Int32 × Int32) ⊕ ((Int32))) :=
  (f_X8_allOf (w0 (0 : Int32).toNatClampNeg)).bind (fun q386 => if q386 ≤ z.2 then some (.inr ((z.1))) else (f_X8_fits w0 z.2 (w0 (4 : Int32).toNatClampNeg)).bind (fun q387 => if (b2i q387) = 0 then f_X8_pansOf_B4_b35 w0 z.2 (0 : Int32) z.1 else f_X8_pansOf_B4_b35 w0 z.2 ((1 : Int32) <<< ((z.2 - z.2 / (3 : Int32) * (3 : Int32)) &&& 31)) z.1))
set_option maxRecDepth 100000 in
set_option maxHeartbeats 4000000 in
theorem b_X8_pansOf_B4 {p : Program} {l : Launch} {e : Env} {s : State} {m : MethodId} {args : Array Value} {below : List Frame} {meth : Method} {c : Code} {A : Nat → Prop} {D : va_G} {cy : Nat → ClassId} {ad : (Nat → Nat) × (Nat → Nat)} {Q : State → Prop} (X : gK p s m args meth c A D cy ad cX8_pansOf 3 RX8) (hr : meth.sig.returnType = (some .int)) {g0 : Nat} (w0 : Fn) (z : Int32 × Int32) {q : (Int32 × Int32) ⊕ ((Int32))} (hf : f_X8_pansOf_B4 w0 z = some q) (K1 : ∀ s' : Int32 × Int32, q = .inl s' → GW p l e rmX8_pansOf s m args below meth c A D 3 0 0 Q 4 [(0, .ref g0), (1, .int s'.1), (2, .int s'.2)] [] [AI cy 107 g0 w0]) (K2 : ∀ e' : Int32, q = .inr (e') → GW p l e rmX8_pansOf s m args below meth c A D 3 0 0 Q 43 [(1, .int e')] [] [AI cy 107 g0 w0]) : GW p l e rmX8_pansOf s m args below meth c A D 3 0 0 Q 4 [(0, .ref g0), (1, .int z.1), (2, .int z.2)] [] [AI cy 107 g0 w0] := by
  unfold f_X8_pansOf_B4 at hf
  refine g_iload_n X dX8_pansOf_4 2 rfl rfl ?_
  refine g_aload_n X dX8_pansOf_5 0 rfl rfl ?_
  refine g_iconst X (0 : Int32) dX8_pansOf_6 (by decide) ?_
  refine g_iaload X dX8_pansOf_7 0 0 rfl rfl (by decide) ?_
  obtain ⟨q386, hq386, hf⟩ := obind hf
  refine g_callS (gs' := [AI cy 107 g0 w0]) (rest := [.int z.2]) X dX8_pansOf_8 (c_X8_allOf l D cy ad (w0 (0 : Int32).toNatClampNeg) hq386) mf_X8_allOf ms_X8_allOf lkm_X8_72 ⟨(Nat.le_of_ble_eq_true rfl), (Nat.le_of_ble_eq_true rfl), (Nat.le_of_ble_eq_true rfl), (Nat.le_of_ble_eq_true rfl)⟩ [0] _ (by decide : [0].Perm (List.range 1)) rfl (by decide : [0].Perm (List.range 1)) rfl (Nat.le_of_ble_eq_true rfl) rfl ?_
  refine g_icmp_ge X 43 dX8_pansOf_11 (by decide) (fun c389 => ?_) (fun c389 => ?_)
  · have hf := opos c389 hf
    refine g_sub [1] (lv' := [(1, .int z.1)]) rfl ?_
    exact K2 (z.1) (Option.some.inj hf).symm
  · have hf := oneg c389 hf
    refine g_iload_n X dX8_pansOf_14 1 rfl rfl ?_
    refine g_aload_n X dX8_pansOf_15 0 rfl rfl ?_
    refine g_iload_n X dX8_pansOf_16 2 rfl rfl ?_
    refine g_aload_n X dX8_pansOf_17 0 rfl rfl ?_
    refine g_iconst X (4 : Int32) dX8_pansOf_18 (by decide) ?_
    refine g_iaload X dX8_pansOf_19 0 0 rfl rfl (by decide) ?_
    obtain ⟨q387, hq387, hf⟩ := obind hf
    refine g_callS (gs' := [AI cy 107 g0 w0]) (rest := [.int z.1]) X dX8_pansOf_20 (c_X8_fits l D cy ad g0 w0 z.2 (w0 (4 : Int32).toNatClampNeg) hq387) mf_X8_fits ms_X8_fits lkm_X8_75 ⟨(Nat.le_of_ble_eq_true rfl), (Nat.le_of_ble_eq_true rfl), (Nat.le_of_ble_eq_true rfl), (Nat.le_of_ble_eq_true rfl)⟩ [0] _ (by decide : [0].Perm (List.range 1)) rfl (by decide : [0].Perm (List.range 1)) rfl (Nat.le_of_ble_eq_true rfl) rfl ?_
    refine g_if_eq X 34 dX8_pansOf_23 (by decide) (fun c388 => ?_) (fun c388 => ?_)
    · have hf := opos c388 hf
      refine g_iconst X (0 : Int32) dX8_pansOf_34 (by decide) ?_
      refine g_sub [0, 2] (lv' := [(0, .ref g0), (2, .int z.2)]) rfl ?_
      exact j_X8_pansOf_B4_b35 X hr w0 z.2 (0 : Int32) z.1 hf K1 K2
    · have hf := oneg c388 hf
      refine g_iconst X (1 : Int32) dX8_pansOf_26 (by decide) ?_
      refine g_iload_n X dX8_pansOf_27 2 rfl rfl ?_
      refine g_iconst X (3 : Int32) dX8_pansOf_28 (by decide) ?_
      refine g_irem X dX8_pansOf_29 (by decide) ?_
      refine g_ishl X dX8_pansOf_30 ?_
      refine g_goto X 35 dX8_pansOf_31 (by decide) ?_
      refine g_sub [0, 2] (lv' := [(0, .ref g0), (2, .int z.2)]) rfl ?_
      exact j_X8_pansOf_B4_b35 X hr w0 z.2 ((1 : Int32) <<< ((z.2 - z.2 / (3 : Int32) * (3 : Int32)) &&& 31)) z.1 hf K1 K2
set_option maxRecDepth 100000 in
set_option maxHeartbeats 4000000 in
theorem w_X8_pansOf_B4 {p : Program} {l : Launch} {e : Env} {s : State} {m : MethodId} {args : Array Value} {below : List Frame} {meth : Method} {c : Code} {A : Nat → Prop} {D : va_G} {cy : Nat → ClassId} {ad : (Nat → Nat) × (Nat → Nat)} {Q : State → Prop} (X : gK p s m args meth c A D cy ad cX8_pansOf 3 RX8) (hr : meth.sig.returnType = (some .int)) {g0 : Nat} (w0 : Fn) {n : Nat} {z : Int32 × Int32} {q : (Int32)} (hf : itl (f_X8_pansOf_B4 w0) n z = some q) (K2 : GW p l e rmX8_pansOf s m args below meth c A D 3 0 0 Q 43 [(1, .int q)] [] [AI cy 107 g0 w0]) : GW p l e rmX8_pansOf s m args below meth c A D 3 0 0 Q 4 [(0, .ref g0), (1, .int z.1), (2, .int z.2)] [] [AI cy 107 g0 w0] :=
  itl_ind (f := f_X8_pansOf_B4 w0) (I := fun z => GW p l e rmX8_pansOf s m args below meth c A D 3 0 0 Q 4 [(0, .ref g0), (1, .int z.1), (2, .int z.2)] [] [AI cy 107 g0 w0]) (J := (fun q => GW p l e rmX8_pansOf s m args below meth c A D 3 0 0 Q 43 [(1, .int q)] [] [AI cy 107 g0 w0])) (fun z x h k1 k2 => b_X8_pansOf_B4 X hr w0 z h (fun s' hs => k1 s' hs) (fun e' he => k2 e' he)) n z q hf K2
def f_X8_pansOf (w0 : Fn) : Option (Int32) :=
  (itl (f_X8_pansOf_B4 w0) FU ((0 : Int32), (0 : Int32))).bind (fun q390 => some q390)
set_option maxRecDepth 100000 in
set_option maxHeartbeats 4000000 in
theorem c_X8_pansOf (l : Launch) (D : va_G) (cy : Nat → ClassId) (ad : (Nat → Nat) × (Nat → Nat)) (g0 : Nat) (w0 : Fn) {q : Int32} (hf : f_X8_pansOf w0 = some q) : CM l yX8_pansOf cX8_pansOf 3 (some .int) rmX8_pansOf D cy ad [.ref g0] [AI cy 107 g0 w0] (some (.int q)) [AI cy 107 g0 w0] := by
  refine cm_of (lv0 := [(0, .ref g0)]) (by decide) (Nat.le_of_ble_eq_true rfl) rfl ?_
  intro p e s m args below meth c A X hr hn
  have X : gK p s m args meth c A D cy ad cX8_pansOf 3 RX8 := X
  unfold f_X8_pansOf at hf
  refine g_iconst X (0 : Int32) dX8_pansOf_0 (by decide) ?_
  refine g_istore_n (lv' := [(0, .ref g0), (1, .int (0 : Int32))]) X dX8_pansOf_1 [1, 0] rfl (Nat.le_of_ble_eq_true rfl) rfl ?_
  refine g_iconst X (0 : Int32) dX8_pansOf_2 (by decide) ?_
  refine g_istore_n (lv' := [(0, .ref g0), (1, .int (0 : Int32)), (2, .int (0 : Int32))]) X dX8_pansOf_3 [1, 2, 0] rfl (Nat.le_of_ble_eq_true rfl) rfl ?_
  obtain ⟨q390, hq390, hf⟩ := obind hf
  refine w_X8_pansOf_B4 X hr w0 hq390 ?_
  refine g_iload_n X dX8_pansOf_43 0 rfl rfl ?_
  have hf := Option.some.inj hf
  subst hf
  exact g_iret X hr dX8_pansOf_44
abbrev rmX8_needsOf : Room := ({ frames := 6, cells := 0, slots := 0, locals := 137 } : Room)
def f_X8_needsOf_B9 (w0 : Fn) (x3 : Int32) (z : Int32 × Int32) : Option ((Int32 × Int32) ⊕ ((Int32))) :=
  if x3 ≤ z.2 then some (.inr ((z.1))) else some (.inl ((z.1 + (1 : Int32)), (z.2 * (3 : Int32))))
set_option maxRecDepth 100000 in
set_option maxHeartbeats 4000000 in
theorem b_X8_needsOf_B9 {p : Program} {l : Launch} {e : Env} {s : State} {m : MethodId} {args : Array Value} {below : List Frame} {meth : Method} {c : Code} {A : Nat → Prop} {D : va_G} {cy : Nat → ClassId} {ad : (Nat → Nat) × (Nat → Nat)} {Q : State → Prop} (X : gK p s m args meth c A D cy ad cX8_needsOf 4 RX8) (hr : meth.sig.returnType = (some .int)) {g0 : Nat} (w0 : Fn) (x3 : Int32) (z : Int32 × Int32) {q : (Int32 × Int32) ⊕ ((Int32))} (hf : f_X8_needsOf_B9 w0 x3 z = some q) (K1 : ∀ s' : Int32 × Int32, q = .inl s' → GW p l e rmX8_needsOf s m args below meth c A D 4 0 0 Q 9 [(1, .int s'.1), (2, .int s'.2), (3, .int x3)] [] [AI cy 107 g0 w0]) (K2 : ∀ e' : Int32, q = .inr (e') → GW p l e rmX8_needsOf s m args below meth c A D 4 0 0 Q 24 [(1, .int e')] [] [AI cy 107 g0 w0]) : GW p l e rmX8_needsOf s m args below meth c A D 4 0 0 Q 9 [(1, .int z.1), (2, .int z.2), (3, .int x3)] [] [AI cy 107 g0 w0] := by
  unfold f_X8_needsOf_B9 at hf
  refine g_iload_n X dX8_needsOf_9 1 rfl rfl ?_
  refine g_iload_n X dX8_needsOf_10 2 rfl rfl ?_
  refine g_icmp_ge X 24 dX8_needsOf_11 (by decide) (fun c394 => ?_) (fun c394 => ?_)
  · have hf := opos c394 hf
    refine g_sub [0] (lv' := [(1, .int z.1)]) rfl ?_
    exact K2 (z.1) (Option.some.inj hf).symm
  · have hf := oneg c394 hf
    refine g_iload_n X dX8_needsOf_14 1 rfl rfl ?_
    refine g_iconst X (3 : Int32) dX8_needsOf_15 (by decide) ?_
    refine g_imul X dX8_needsOf_16 ?_
    refine g_istore_n (lv' := [(1, .int z.1), (2, .int (z.2 * (3 : Int32))), (3, .int x3)]) X dX8_needsOf_17 [1, 0, 2] rfl (Nat.le_of_ble_eq_true rfl) rfl ?_
    refine g_iinc (lv' := [(1, .int (z.1 + (1 : Int32))), (2, .int (z.2 * (3 : Int32))), (3, .int x3)]) (v := (1 : Int32)) X dX8_needsOf_18 0 rfl (by decide) [0, 1, 2] (Nat.le_of_ble_eq_true rfl) rfl ?_
    refine g_goto X 9 dX8_needsOf_21 (by decide) ?_
    exact K1 ((z.1 + (1 : Int32)), (z.2 * (3 : Int32))) (Option.some.inj hf).symm
set_option maxRecDepth 100000 in
set_option maxHeartbeats 4000000 in
theorem w_X8_needsOf_B9 {p : Program} {l : Launch} {e : Env} {s : State} {m : MethodId} {args : Array Value} {below : List Frame} {meth : Method} {c : Code} {A : Nat → Prop} {D : va_G} {cy : Nat → ClassId} {ad : (Nat → Nat) × (Nat → Nat)} {Q : State → Prop} (X : gK p s m args meth c A D cy ad cX8_needsOf 4 RX8) (hr : meth.sig.returnType = (some .int)) {g0 : Nat} (w0 : Fn) (x3 : Int32) {n : Nat} {z : Int32 × Int32} {q : (Int32)} (hf : itl (f_X8_needsOf_B9 w0 x3) n z = some q) (K2 : GW p l e rmX8_needsOf s m args below meth c A D 4 0 0 Q 24 [(1, .int q)] [] [AI cy 107 g0 w0]) : GW p l e rmX8_needsOf s m args below meth c A D 4 0 0 Q 9 [(1, .int z.1), (2, .int z.2), (3, .int x3)] [] [AI cy 107 g0 w0] :=
  itl_ind (f := f_X8_needsOf_B9 w0 x3) (I := fun z => GW p l e rmX8_needsOf s m args below meth c A D 4 0 0 Q 9 [(1, .int z.1), (2, .int z.2), (3, .int x3)] [] [AI cy 107 g0 w0]) (J := (fun q => GW p l e rmX8_needsOf s m args below meth c A D 4 0 0 Q 24 [(1, .int q)] [] [AI cy 107 g0 w0])) (fun z x h k1 k2 => b_X8_needsOf_B9 X hr w0 x3 z h (fun s' hs => k1 s' hs) (fun e' he => k2 e' he)) n z q hf K2
def f_X8_needsOf (w0 : Fn) : Option (Int32) :=
  (f_X8_leftOf w0).bind (fun q393 => (itl (f_X8_needsOf_B9 w0 q393) FU ((0 : Int32), (1 : Int32))).bind (fun q395 => some q395))
set_option maxRecDepth 100000 in
set_option maxHeartbeats 4000000 in
theorem c_X8_needsOf (l : Launch) (D : va_G) (cy : Nat → ClassId) (ad : (Nat → Nat) × (Nat → Nat)) (g0 : Nat) (w0 : Fn) {q : Int32} (hf : f_X8_needsOf w0 = some q) : CM l yX8_needsOf cX8_needsOf 4 (some .int) rmX8_needsOf D cy ad [.ref g0] [AI cy 107 g0 w0] (some (.int q)) [AI cy 107 g0 w0] := by
  refine cm_of (lv0 := [(0, .ref g0)]) (by decide) (Nat.le_of_ble_eq_true rfl) rfl ?_
  intro p e s m args below meth c A X hr hn
  have X : gK p s m args meth c A D cy ad cX8_needsOf 4 RX8 := X
  unfold f_X8_needsOf at hf
  refine g_iconst X (0 : Int32) dX8_needsOf_0 (by decide) ?_
  refine g_istore_n (lv' := [(0, .ref g0), (1, .int (0 : Int32))]) X dX8_needsOf_1 [1, 0] rfl (Nat.le_of_ble_eq_true rfl) rfl ?_
  refine g_iconst X (1 : Int32) dX8_needsOf_2 (by decide) ?_
  refine g_istore_n (lv' := [(0, .ref g0), (1, .int (0 : Int32)), (2, .int (1 : Int32))]) X dX8_needsOf_3 [1, 2, 0] rfl (Nat.le_of_ble_eq_true rfl) rfl ?_
  refine g_aload_n X dX8_needsOf_4 0 rfl rfl ?_
  obtain ⟨q393, hq393, hf⟩ := obind hf
  refine g_callS (gs' := [AI cy 107 g0 w0]) (rest := []) X dX8_needsOf_5 (c_X8_leftOf l D cy ad g0 w0 hq393) mf_X8_leftOf ms_X8_leftOf lkm_X8_86 ⟨(Nat.le_of_ble_eq_true rfl), (Nat.le_of_ble_eq_true rfl), (Nat.le_of_ble_eq_true rfl), (Nat.le_of_ble_eq_true rfl)⟩ [0] _ (by decide : [0].Perm (List.range 1)) rfl (by decide : [0].Perm (List.range 1)) rfl (Nat.le_of_ble_eq_true rfl) rfl ?_
  refine g_istore_n (lv' := [(0, .ref g0), (1, .int (0 : Int32)), (2, .int (1 : Int32)), (3, .int q393)]) X dX8_needsOf_8 [1, 2, 3, 0] rfl (Nat.le_of_ble_eq_true rfl) rfl ?_
  obtain ⟨q395, hq395, hf⟩ := obind hf
  refine g_sub [1, 2, 3] (lv' := [(1, .int (0 : Int32)), (2, .int (1 : Int32)), (3, .int q393)]) rfl ?_
  refine w_X8_needsOf_B9 X hr w0 q393 hq395 ?_
  refine g_iload_n X dX8_needsOf_24 0 rfl rfl ?_
  have hf := Option.some.inj hf
  subst hf
  exact g_iret X hr dX8_needsOf_25
abbrev rmX8_hideOn : Room := ({ frames := 1, cells := 0, slots := 0, locals := 20 } : Room)
def f_X8_hideOn (w0 : Fn) (p1 : Int32) (p2 : Int32) : Option (Int32 × Fn) :=
  (f_X8_allOf p1).bind (fun q398 => some (q398, (upd (upd (upd w0 (0 : Int32).toNatClampNeg p1) (1 : Int32).toNatClampNeg p2) (4 : Int32).toNatClampNeg (0 : Int32))))
set_option maxRecDepth 100000 in
set_option maxHeartbeats 4000000 in
theorem c_X8_hideOn (l : Launch) (D : va_G) (cy : Nat → ClassId) (ad : (Nat → Nat) × (Nat → Nat)) (g0 : Nat) (w0 : Fn) (p1 : Int32) (p2 : Int32) {q : Int32 × Fn} (hf : f_X8_hideOn w0 p1 p2 = some q) : CM l yX8_hideOn cX8_hideOn 3 (some .int) rmX8_hideOn D cy ad [.ref g0, .int p1, .int p2] [AI cy 107 g0 w0] (some (.int q.1)) [AI cy 107 g0 q.2] := by
  refine cm_of (lv0 := [(0, .ref g0), (1, .int p1), (2, .int p2)]) (by decide) (Nat.le_of_ble_eq_true rfl) rfl ?_
  intro p e s m args below meth c A X hr hn
  have X : gK p s m args meth c A D cy ad cX8_hideOn 3 RX8 := X
  unfold f_X8_hideOn at hf
  refine g_aload_n X dX8_hideOn_0 0 rfl rfl ?_
  refine g_iconst X (0 : Int32) dX8_hideOn_1 (by decide) ?_
  refine g_iload_n X dX8_hideOn_2 1 rfl rfl ?_
  refine g_iastore (gs' := [AI cy 107 g0 (upd w0 (0 : Int32).toNatClampNeg p1)]) X dX8_hideOn_3 0 0 rfl rfl (by decide) rfl ?_
  refine g_aload_n X dX8_hideOn_4 0 rfl rfl ?_
  refine g_iconst X (1 : Int32) dX8_hideOn_5 (by decide) ?_
  refine g_iload_n X dX8_hideOn_6 2 rfl rfl ?_
  refine g_iastore (gs' := [AI cy 107 g0 (upd (upd w0 (0 : Int32).toNatClampNeg p1) (1 : Int32).toNatClampNeg p2)]) X dX8_hideOn_7 0 0 rfl rfl (by decide) rfl ?_
  refine g_aload_n X dX8_hideOn_8 0 rfl rfl ?_
  refine g_iconst X (4 : Int32) dX8_hideOn_9 (by decide) ?_
  refine g_iconst X (0 : Int32) dX8_hideOn_10 (by decide) ?_
  refine g_iastore (gs' := [AI cy 107 g0 (upd (upd (upd w0 (0 : Int32).toNatClampNeg p1) (1 : Int32).toNatClampNeg p2) (4 : Int32).toNatClampNeg (0 : Int32))]) X dX8_hideOn_11 0 0 rfl rfl (by decide) rfl ?_
  refine g_iload_n X dX8_hideOn_12 1 rfl rfl ?_
  obtain ⟨q398, hq398, hf⟩ := obind hf
  refine g_callS (gs' := [AI cy 107 g0 (upd (upd (upd w0 (0 : Int32).toNatClampNeg p1) (1 : Int32).toNatClampNeg p2) (4 : Int32).toNatClampNeg (0 : Int32))]) (rest := []) X dX8_hideOn_13 (c_X8_allOf l D cy ad p1 hq398) mf_X8_allOf ms_X8_allOf lkm_X8_72 ⟨(Nat.le_of_ble_eq_true rfl), (Nat.le_of_ble_eq_true rfl), (Nat.le_of_ble_eq_true rfl), (Nat.le_of_ble_eq_true rfl)⟩ [0] _ (by decide : [0].Perm (List.range 1)) rfl (by decide : [0].Perm (List.range 1)) rfl (Nat.le_of_ble_eq_true rfl) rfl ?_
  have hf := Option.some.inj hf
  subst hf
  exact g_iret X hr dX8_hideOn_16
abbrev rmX8_armsOn : Room := ({ frames := 0, cells := 0, slots := 0, locals := 0 } : Room)
def f_X8_armsOn (w0 : Fn) (p1 : Int32) (p2 : Int32) : Option (Int32 × Fn) :=
  if p1 = p2 then some ((1 : Int32), (upd (upd w0 (2 : Int32).toNatClampNeg p1) (3 : Int32).toNatClampNeg p2)) else some ((0 : Int32), (upd (upd w0 (2 : Int32).toNatClampNeg p1) (3 : Int32).toNatClampNeg p2))
set_option maxRecDepth 100000 in
set_option maxHeartbeats 4000000 in
theorem c_X8_armsOn (l : Launch) (D : va_G) (cy : Nat → ClassId) (ad : (Nat → Nat) × (Nat → Nat)) (g0 : Nat) (w0 : Fn) (p1 : Int32) (p2 : Int32) {q : Int32 × Fn} (hf : f_X8_armsOn w0 p1 p2 = some q) : CM l yX8_armsOn cX8_armsOn 3 (some .int) rmX8_armsOn D cy ad [.ref g0, .int p1, .int p2] [AI cy 107 g0 w0] (some (.int q.1)) [AI cy 107 g0 q.2] := by
  refine cm_of (lv0 := [(0, .ref g0), (1, .int p1), (2, .int p2)]) (by decide) (Nat.le_of_ble_eq_true rfl) rfl ?_
  intro p e s m args below meth c A X hr hn
  have X : gK p s m args meth c A D cy ad cX8_armsOn 3 RX8 := X
  unfold f_X8_armsOn at hf
  refine g_aload_n X dX8_armsOn_0 0 rfl rfl ?_
  refine g_iconst X (2 : Int32) dX8_armsOn_1 (by decide) ?_
  refine g_iload_n X dX8_armsOn_2 1 rfl rfl ?_
  refine g_iastore (gs' := [AI cy 107 g0 (upd w0 (2 : Int32).toNatClampNeg p1)]) X dX8_armsOn_3 0 0 rfl rfl (by decide) rfl ?_
  refine g_aload_n X dX8_armsOn_4 0 rfl rfl ?_
  refine g_iconst X (3 : Int32) dX8_armsOn_5 (by decide) ?_
  refine g_iload_n X dX8_armsOn_6 2 rfl rfl ?_
  refine g_iastore (gs' := [AI cy 107 g0 (upd (upd w0 (2 : Int32).toNatClampNeg p1) (3 : Int32).toNatClampNeg p2)]) X dX8_armsOn_7 0 0 rfl rfl (by decide) rfl ?_
  refine g_iload_n X dX8_armsOn_8 1 rfl rfl ?_
  refine g_iload_n X dX8_armsOn_9 2 rfl rfl ?_
  refine g_icmp_ne X 17 dX8_armsOn_10 (by decide) (fun c399 => ?_) (fun c399 => ?_)
  · have hf := oneg c399 hf
    refine g_iconst X (0 : Int32) dX8_armsOn_17 (by decide) ?_
    have hf := Option.some.inj hf
    subst hf
    exact g_iret X hr dX8_armsOn_18
  · have hf := opos c399 hf
    refine g_iconst X (1 : Int32) dX8_armsOn_13 (by decide) ?_
    refine g_goto X 18 dX8_armsOn_14 (by decide) ?_
    have hf := Option.some.inj hf
    subst hf
    exact g_iret X hr dX8_armsOn_18
abbrev rmX8_canWeigh : Room := ({ frames := 3, cells := 0, slots := 0, locals := 68 } : Room)
def f_X8_canWeigh (w0 : Fn) (p1 : Int32) (p2 : Int32) : Option (Bool) :=
  (f_X8_isWeighing w0 p1 p2).bind (fun q402 => if (b2i q402) = 0 then some false else if (20 : Int32) ≤ (w0 (4 : Int32).toNatClampNeg) then some false else some true)
set_option maxRecDepth 100000 in
set_option maxHeartbeats 4000000 in
theorem c_X8_canWeigh (l : Launch) (D : va_G) (cy : Nat → ClassId) (ad : (Nat → Nat) × (Nat → Nat)) (g0 : Nat) (w0 : Fn) (p1 : Int32) (p2 : Int32) {q : Bool} (hf : f_X8_canWeigh w0 p1 p2 = some q) : CM l yX8_canWeigh cX8_canWeigh 3 (some .boolean) rmX8_canWeigh D cy ad [.ref g0, .int p1, .int p2] [AI cy 107 g0 w0] (some (.int (b2i q))) [AI cy 107 g0 w0] := by
  refine cm_of (lv0 := [(0, .ref g0), (1, .int p1), (2, .int p2)]) (by decide) (Nat.le_of_ble_eq_true rfl) rfl ?_
  intro p e s m args below meth c A X hr hn
  have X : gK p s m args meth c A D cy ad cX8_canWeigh 3 RX8 := X
  unfold f_X8_canWeigh at hf
  refine g_aload_n X dX8_canWeigh_0 0 rfl rfl ?_
  refine g_iload_n X dX8_canWeigh_1 1 rfl rfl ?_
  refine g_iload_n X dX8_canWeigh_2 2 rfl rfl ?_
  obtain ⟨q402, hq402, hf⟩ := obind hf
  refine g_callS (gs' := [AI cy 107 g0 w0]) (rest := []) X dX8_canWeigh_3 (c_X8_isWeighing l D cy ad g0 w0 p1 p2 hq402) mf_X8_isWeighing ms_X8_isWeighing lkm_X8_90 ⟨(Nat.le_of_ble_eq_true rfl), (Nat.le_of_ble_eq_true rfl), (Nat.le_of_ble_eq_true rfl), (Nat.le_of_ble_eq_true rfl)⟩ [0] _ (by decide : [0].Perm (List.range 1)) rfl (by decide : [0].Perm (List.range 1)) rfl (Nat.le_of_ble_eq_true rfl) rfl ?_
  refine g_if_eq X 21 dX8_canWeigh_6 (by decide) (fun c404 => ?_) (fun c404 => ?_)
  · have hf := opos c404 hf
    refine g_iconst X (0 : Int32) dX8_canWeigh_21 (by decide) ?_
    have hf := Option.some.inj hf
    subst hf
    exact g_zret (b := false) X hr dX8_canWeigh_22
  · have hf := oneg c404 hf
    refine g_aload_n X dX8_canWeigh_9 0 rfl rfl ?_
    refine g_iconst X (4 : Int32) dX8_canWeigh_10 (by decide) ?_
    refine g_iaload X dX8_canWeigh_11 0 0 rfl rfl (by decide) ?_
    refine g_bipush X (20 : Int32) dX8_canWeigh_12 (by decide) ?_
    refine g_icmp_ge X 21 dX8_canWeigh_14 (by decide) (fun c403 => ?_) (fun c403 => ?_)
    · have hf := opos c403 hf
      refine g_iconst X (0 : Int32) dX8_canWeigh_21 (by decide) ?_
      have hf := Option.some.inj hf
      subst hf
      exact g_zret (b := false) X hr dX8_canWeigh_22
    · have hf := oneg c403 hf
      refine g_iconst X (1 : Int32) dX8_canWeigh_17 (by decide) ?_
      refine g_goto X 22 dX8_canWeigh_18 (by decide) ?_
      have hf := Option.some.inj hf
      subst hf
      exact g_zret (b := true) X hr dX8_canWeigh_22
abbrev rmX8_weighOn : Room := ({ frames := 3, cells := 0, slots := 0, locals := 70 } : Room)
def f_X8_weighOn (w0 : Fn) (p1 : Int32) (p2 : Int32) : Option (Int32 × Fn) :=
  (f_X8_at (w0 (4 : Int32).toNatClampNeg)).bind (fun q421 => if q421 < 0 ∨ 107 ≤ q421.toNatClampNeg then none else if (q421 + (1 : Int32)) < 0 ∨ 107 ≤ (q421 + (1 : Int32)).toNatClampNeg then none else (f_X8_outcome p1 p2 ((upd (upd w0 q421.toNatClampNeg p1) (q421 + (1 : Int32)).toNatClampNeg p2) (2 : Int32).toNatClampNeg) ((upd (upd w0 q421.toNatClampNeg p1) (q421 + (1 : Int32)).toNatClampNeg p2) (3 : Int32).toNatClampNeg) ((upd (upd w0 q421.toNatClampNeg p1) (q421 + (1 : Int32)).toNatClampNeg p2) (1 : Int32).toNatClampNeg)).bind (fun q424 => if (q421 + (2 : Int32)) < 0 ∨ 107 ≤ (q421 + (2 : Int32)).toNatClampNeg then none else if (q421 + (3 : Int32)) < 0 ∨ 107 ≤ (q421 + (3 : Int32)).toNatClampNeg then none else if (q421 + (4 : Int32)) < 0 ∨ 107 ≤ (q421 + (4 : Int32)).toNatClampNeg then none else if (q421 + (2 : Int32)) < 0 ∨ 107 ≤ (q421 + (2 : Int32)).toNatClampNeg then none else some (((upd (upd (upd (upd (upd (upd w0 q421.toNatClampNeg p1) (q421 + (1 : Int32)).toNatClampNeg p2) (q421 + (2 : Int32)).toNatClampNeg q424) (q421 + (3 : Int32)).toNatClampNeg ((upd (upd (upd w0 q421.toNatClampNeg p1) (q421 + (1 : Int32)).toNatClampNeg p2) (q421 + (2 : Int32)).toNatClampNeg q424) (2 : Int32).toNatClampNeg)) (q421 + (4 : Int32)).toNatClampNeg ((upd (upd (upd (upd w0 q421.toNatClampNeg p1) (q421 + (1 : Int32)).toNatClampNeg p2) (q421 + (2 : Int32)).toNatClampNeg q424) (q421 + (3 : Int32)).toNatClampNeg ((upd (upd (upd w0 q421.toNatClampNeg p1) (q421 + (1 : Int32)).toNatClampNeg p2) (q421 + (2 : Int32)).toNatClampNeg q424) (2 : Int32).toNatClampNeg)) (3 : Int32).toNatClampNeg)) (4 : Int32).toNatClampNeg (((upd (upd (upd (upd (upd w0 q421.toNatClampNeg p1) (q421 + (1 : Int32)).toNatClampNeg p2) (q421 + (2 : Int32)).toNatClampNeg q424) (q421 + (3 : Int32)).toNatClampNeg ((upd (upd (upd w0 q421.toNatClampNeg p1) (q421 + (1 : Int32)).toNatClampNeg p2) (q421 + (2 : Int32)).toNatClampNeg q424) (2 : Int32).toNatClampNeg)) (q421 + (4 : Int32)).toNatClampNeg ((upd (upd (upd (upd w0 q421.toNatClampNeg p1) (q421 + (1 : Int32)).toNatClampNeg p2) (q421 + (2 : Int32)).toNatClampNeg q424) (q421 + (3 : Int32)).toNatClampNeg ((upd (upd (upd w0 q421.toNatClampNeg p1) (q421 + (1 : Int32)).toNatClampNeg p2) (q421 + (2 : Int32)).toNatClampNeg q424) (2 : Int32).toNatClampNeg)) (3 : Int32).toNatClampNeg)) (4 : Int32).toNatClampNeg) + (1 : Int32))) (q421 + (2 : Int32)).toNatClampNeg), (upd (upd (upd (upd (upd (upd w0 q421.toNatClampNeg p1) (q421 + (1 : Int32)).toNatClampNeg p2) (q421 + (2 : Int32)).toNatClampNeg q424) (q421 + (3 : Int32)).toNatClampNeg ((upd (upd (upd w0 q421.toNatClampNeg p1) (q421 + (1 : Int32)).toNatClampNeg p2) (q421 + (2 : Int32)).toNatClampNeg q424) (2 : Int32).toNatClampNeg)) (q421 + (4 : Int32)).toNatClampNeg ((upd (upd (upd (upd w0 q421.toNatClampNeg p1) (q421 + (1 : Int32)).toNatClampNeg p2) (q421 + (2 : Int32)).toNatClampNeg q424) (q421 + (3 : Int32)).toNatClampNeg ((upd (upd (upd w0 q421.toNatClampNeg p1) (q421 + (1 : Int32)).toNatClampNeg p2) (q421 + (2 : Int32)).toNatClampNeg q424) (2 : Int32).toNatClampNeg)) (3 : Int32).toNatClampNeg)) (4 : Int32).toNatClampNeg (((upd (upd (upd (upd (upd w0 q421.toNatClampNeg p1) (q421 + (1 : Int32)).toNatClampNeg p2) (q421 + (2 : Int32)).toNatClampNeg q424) (q421 + (3 : Int32)).toNatClampNeg ((upd (upd (upd w0 q421.toNatClampNeg p1) (q421 + (1 : Int32)).toNatClampNeg p2) (q421 + (2 : Int32)).toNatClampNeg q424) (2 : Int32).toNatClampNeg)) (q421 + (4 : Int32)).toNatClampNeg ((upd (upd (upd (upd w0 q421.toNatClampNeg p1) (q421 + (1 : Int32)).toNatClampNeg p2) (q421 + (2 : Int32)).toNatClampNeg q424) (q421 + (3 : Int32)).toNatClampNeg ((upd (upd (upd w0 q421.toNatClampNeg p1) (q421 + (1 : Int32)).toNatClampNeg p2) (q421 + (2 : Int32)).toNatClampNeg q424) (2 : Int32).toNatClampNeg)) (3 : Int32).toNatClampNeg)) (4 : Int32).toNatClampNeg) + (1 : Int32))))))
set_option maxRecDepth 100000 in
set_option maxHeartbeats 4000000 in
theorem c_X8_weighOn (l : Launch) (D : va_G) (cy : Nat → ClassId) (ad : (Nat → Nat) × (Nat → Nat)) (g0 : Nat) (w0 : Fn) (p1 : Int32) (p2 : Int32) {q : Int32 × Fn} (hf : f_X8_weighOn w0 p1 p2 = some q) : CM l yX8_weighOn cX8_weighOn 4 (some .int) rmX8_weighOn D cy ad [.ref g0, .int p1, .int p2] [AI cy 107 g0 w0] (some (.int q.1)) [AI cy 107 g0 q.2] := by
  refine cm_of (lv0 := [(0, .ref g0), (1, .int p1), (2, .int p2)]) (by decide) (Nat.le_of_ble_eq_true rfl) rfl ?_
  intro p e s m args below meth c A X hr hn
  have X : gK p s m args meth c A D cy ad cX8_weighOn 4 RX8 := X
  unfold f_X8_weighOn at hf
  refine g_aload_n X dX8_weighOn_0 0 rfl rfl ?_
  refine g_iconst X (4 : Int32) dX8_weighOn_1 (by decide) ?_
  refine g_iaload X dX8_weighOn_2 0 0 rfl rfl (by decide) ?_
  obtain ⟨q421, hq421, hf⟩ := obind hf
  refine g_callS (gs' := [AI cy 107 g0 w0]) (rest := []) X dX8_weighOn_3 (c_X8_at l D cy ad (w0 (4 : Int32).toNatClampNeg) hq421) mf_X8_at ms_X8_at lkm_X8_65 ⟨(Nat.le_of_ble_eq_true rfl), (Nat.le_of_ble_eq_true rfl), (Nat.le_of_ble_eq_true rfl), (Nat.le_of_ble_eq_true rfl)⟩ [0] _ (by decide : [0].Perm (List.range 1)) rfl (by decide : [0].Perm (List.range 1)) rfl (Nat.le_of_ble_eq_true rfl) rfl ?_
  refine g_istore_n (lv' := [(0, .ref g0), (1, .int p1), (2, .int p2), (3, .int q421)]) X dX8_weighOn_6 [1, 2, 3, 0] rfl (Nat.le_of_ble_eq_true rfl) rfl ?_
  refine g_aload_n X dX8_weighOn_7 0 rfl rfl ?_
  refine g_iload_n X dX8_weighOn_8 3 rfl rfl ?_
  refine g_iload_n X dX8_weighOn_9 1 rfl rfl ?_
  obtain ⟨n422, hf⟩ := oguard hf
  refine g_iastore (gs' := [AI cy 107 g0 (upd w0 q421.toNatClampNeg p1)]) X dX8_weighOn_10 0 0 rfl rfl n422 rfl ?_
  refine g_aload_n X dX8_weighOn_11 0 rfl rfl ?_
  refine g_iload_n X dX8_weighOn_12 3 rfl rfl ?_
  refine g_iconst X (1 : Int32) dX8_weighOn_13 (by decide) ?_
  refine g_iadd X dX8_weighOn_14 ?_
  refine g_iload_n X dX8_weighOn_15 2 rfl rfl ?_
  obtain ⟨n423, hf⟩ := oguard hf
  refine g_iastore (gs' := [AI cy 107 g0 (upd (upd w0 q421.toNatClampNeg p1) (q421 + (1 : Int32)).toNatClampNeg p2)]) X dX8_weighOn_16 0 0 rfl rfl n423 rfl ?_
  refine g_aload_n X dX8_weighOn_17 0 rfl rfl ?_
  refine g_iload_n X dX8_weighOn_18 3 rfl rfl ?_
  refine g_iconst X (2 : Int32) dX8_weighOn_19 (by decide) ?_
  refine g_iadd X dX8_weighOn_20 ?_
  refine g_iload_n X dX8_weighOn_21 1 rfl rfl ?_
  refine g_iload_n X dX8_weighOn_22 2 rfl rfl ?_
  refine g_aload_n X dX8_weighOn_23 0 rfl rfl ?_
  refine g_iconst X (2 : Int32) dX8_weighOn_24 (by decide) ?_
  refine g_iaload X dX8_weighOn_25 0 0 rfl rfl (by decide) ?_
  refine g_aload_n X dX8_weighOn_26 0 rfl rfl ?_
  refine g_iconst X (3 : Int32) dX8_weighOn_27 (by decide) ?_
  refine g_iaload X dX8_weighOn_28 0 0 rfl rfl (by decide) ?_
  refine g_aload_n X dX8_weighOn_29 0 rfl rfl ?_
  refine g_iconst X (1 : Int32) dX8_weighOn_30 (by decide) ?_
  refine g_iaload X dX8_weighOn_31 0 0 rfl rfl (by decide) ?_
  obtain ⟨q424, hq424, hf⟩ := obind hf
  refine g_callS (gs' := [AI cy 107 g0 (upd (upd w0 q421.toNatClampNeg p1) (q421 + (1 : Int32)).toNatClampNeg p2)]) (rest := [.int (q421 + (2 : Int32)), .ref g0]) X dX8_weighOn_32 (c_X8_outcome l D cy ad p1 p2 ((upd (upd w0 q421.toNatClampNeg p1) (q421 + (1 : Int32)).toNatClampNeg p2) (2 : Int32).toNatClampNeg) ((upd (upd w0 q421.toNatClampNeg p1) (q421 + (1 : Int32)).toNatClampNeg p2) (3 : Int32).toNatClampNeg) ((upd (upd w0 q421.toNatClampNeg p1) (q421 + (1 : Int32)).toNatClampNeg p2) (1 : Int32).toNatClampNeg) hq424) mf_X8_outcome ms_X8_outcome lkm_X8_68 ⟨(Nat.le_of_ble_eq_true rfl), (Nat.le_of_ble_eq_true rfl), (Nat.le_of_ble_eq_true rfl), (Nat.le_of_ble_eq_true rfl)⟩ [0] _ (by decide : [0].Perm (List.range 1)) rfl (by decide : [0].Perm (List.range 1)) rfl (Nat.le_of_ble_eq_true rfl) rfl ?_
  obtain ⟨n425, hf⟩ := oguard hf
  refine g_iastore (gs' := [AI cy 107 g0 (upd (upd (upd w0 q421.toNatClampNeg p1) (q421 + (1 : Int32)).toNatClampNeg p2) (q421 + (2 : Int32)).toNatClampNeg q424)]) X dX8_weighOn_35 0 0 rfl rfl n425 rfl ?_
  refine g_aload_n X dX8_weighOn_36 0 rfl rfl ?_
  refine g_iload_n X dX8_weighOn_37 3 rfl rfl ?_
  refine g_iconst X (3 : Int32) dX8_weighOn_38 (by decide) ?_
  refine g_iadd X dX8_weighOn_39 ?_
  refine g_aload_n X dX8_weighOn_40 0 rfl rfl ?_
  refine g_iconst X (2 : Int32) dX8_weighOn_41 (by decide) ?_
  refine g_iaload X dX8_weighOn_42 0 0 rfl rfl (by decide) ?_
  obtain ⟨n426, hf⟩ := oguard hf
  refine g_iastore (gs' := [AI cy 107 g0 (upd (upd (upd (upd w0 q421.toNatClampNeg p1) (q421 + (1 : Int32)).toNatClampNeg p2) (q421 + (2 : Int32)).toNatClampNeg q424) (q421 + (3 : Int32)).toNatClampNeg ((upd (upd (upd w0 q421.toNatClampNeg p1) (q421 + (1 : Int32)).toNatClampNeg p2) (q421 + (2 : Int32)).toNatClampNeg q424) (2 : Int32).toNatClampNeg))]) X dX8_weighOn_43 0 0 rfl rfl n426 rfl ?_
  refine g_aload_n X dX8_weighOn_44 0 rfl rfl ?_
  refine g_iload_n X dX8_weighOn_45 3 rfl rfl ?_
  refine g_iconst X (4 : Int32) dX8_weighOn_46 (by decide) ?_
  refine g_iadd X dX8_weighOn_47 ?_
  refine g_aload_n X dX8_weighOn_48 0 rfl rfl ?_
  refine g_iconst X (3 : Int32) dX8_weighOn_49 (by decide) ?_
  refine g_iaload X dX8_weighOn_50 0 0 rfl rfl (by decide) ?_
  obtain ⟨n427, hf⟩ := oguard hf
  refine g_iastore (gs' := [AI cy 107 g0 (upd (upd (upd (upd (upd w0 q421.toNatClampNeg p1) (q421 + (1 : Int32)).toNatClampNeg p2) (q421 + (2 : Int32)).toNatClampNeg q424) (q421 + (3 : Int32)).toNatClampNeg ((upd (upd (upd w0 q421.toNatClampNeg p1) (q421 + (1 : Int32)).toNatClampNeg p2) (q421 + (2 : Int32)).toNatClampNeg q424) (2 : Int32).toNatClampNeg)) (q421 + (4 : Int32)).toNatClampNeg ((upd (upd (upd (upd w0 q421.toNatClampNeg p1) (q421 + (1 : Int32)).toNatClampNeg p2) (q421 + (2 : Int32)).toNatClampNeg q424) (q421 + (3 : Int32)).toNatClampNeg ((upd (upd (upd w0 q421.toNatClampNeg p1) (q421 + (1 : Int32)).toNatClampNeg p2) (q421 + (2 : Int32)).toNatClampNeg q424) (2 : Int32).toNatClampNeg)) (3 : Int32).toNatClampNeg))]) X dX8_weighOn_51 0 0 rfl rfl n427 rfl ?_
  refine g_aload_n X dX8_weighOn_52 0 rfl rfl ?_
  refine g_iconst X (4 : Int32) dX8_weighOn_53 (by decide) ?_
  refine g_dup2 X dX8_weighOn_54 rfl rfl ?_
  refine g_iaload X dX8_weighOn_55 0 0 rfl rfl (by decide) ?_
  refine g_iconst X (1 : Int32) dX8_weighOn_56 (by decide) ?_
  refine g_iadd X dX8_weighOn_57 ?_
  refine g_iastore (gs' := [AI cy 107 g0 (upd (upd (upd (upd (upd (upd w0 q421.toNatClampNeg p1) (q421 + (1 : Int32)).toNatClampNeg p2) (q421 + (2 : Int32)).toNatClampNeg q424) (q421 + (3 : Int32)).toNatClampNeg ((upd (upd (upd w0 q421.toNatClampNeg p1) (q421 + (1 : Int32)).toNatClampNeg p2) (q421 + (2 : Int32)).toNatClampNeg q424) (2 : Int32).toNatClampNeg)) (q421 + (4 : Int32)).toNatClampNeg ((upd (upd (upd (upd w0 q421.toNatClampNeg p1) (q421 + (1 : Int32)).toNatClampNeg p2) (q421 + (2 : Int32)).toNatClampNeg q424) (q421 + (3 : Int32)).toNatClampNeg ((upd (upd (upd w0 q421.toNatClampNeg p1) (q421 + (1 : Int32)).toNatClampNeg p2) (q421 + (2 : Int32)).toNatClampNeg q424) (2 : Int32).toNatClampNeg)) (3 : Int32).toNatClampNeg)) (4 : Int32).toNatClampNeg (((upd (upd (upd (upd (upd w0 q421.toNatClampNeg p1) (q421 + (1 : Int32)).toNatClampNeg p2) (q421 + (2 : Int32)).toNatClampNeg q424) (q421 + (3 : Int32)).toNatClampNeg ((upd (upd (upd w0 q421.toNatClampNeg p1) (q421 + (1 : Int32)).toNatClampNeg p2) (q421 + (2 : Int32)).toNatClampNeg q424) (2 : Int32).toNatClampNeg)) (q421 + (4 : Int32)).toNatClampNeg ((upd (upd (upd (upd w0 q421.toNatClampNeg p1) (q421 + (1 : Int32)).toNatClampNeg p2) (q421 + (2 : Int32)).toNatClampNeg q424) (q421 + (3 : Int32)).toNatClampNeg ((upd (upd (upd w0 q421.toNatClampNeg p1) (q421 + (1 : Int32)).toNatClampNeg p2) (q421 + (2 : Int32)).toNatClampNeg q424) (2 : Int32).toNatClampNeg)) (3 : Int32).toNatClampNeg)) (4 : Int32).toNatClampNeg) + (1 : Int32)))]) X dX8_weighOn_58 0 0 rfl rfl (by decide) rfl ?_
  refine g_aload_n X dX8_weighOn_59 0 rfl rfl ?_
  refine g_iload_n X dX8_weighOn_60 3 rfl rfl ?_
  refine g_iconst X (2 : Int32) dX8_weighOn_61 (by decide) ?_
  refine g_iadd X dX8_weighOn_62 ?_
  obtain ⟨n428, hf⟩ := oguard hf
  refine g_iaload X dX8_weighOn_63 0 0 rfl rfl n428 ?_
  have hf := Option.some.inj hf
  subst hf
  exact g_iret X hr dX8_weighOn_64
abbrev rmX8_told : Room := ({ frames := 0, cells := 0, slots := 0, locals := 0 } : Room)
def f_X8_told_b11 (w0 : Fn) (x1 : Bool) (y0 : Int32) : Option (Int32 × Fn) :=
  if y0 < 0 ∨ 107 ≤ y0.toNatClampNeg then none else if y0 < 0 ∨ 107 ≤ y0.toNatClampNeg then none else if (b2i x1) = 0 then some ((0 : Int32), (upd w0 y0.toNatClampNeg ((w0 y0.toNatClampNeg) + (1 : Int32)))) else some ((1 : Int32), (upd w0 y0.toNatClampNeg ((w0 y0.toNatClampNeg) + (1 : Int32))))
set_option maxRecDepth 100000 in
set_option maxHeartbeats 4000000 in
theorem j_X8_told_b11 {p : Program} {l : Launch} {e : Env} {s : State} {m : MethodId} {args : Array Value} {below : List Frame} {meth : Method} {c : Code} {A : Nat → Prop} {D : va_G} {cy : Nat → ClassId} {ad : (Nat → Nat) × (Nat → Nat)} (X : gK p s m args meth c A D cy ad cX8_told 2 RX8) (hr : meth.sig.returnType = (some .int)) {g0 : Nat} (w0 : Fn) (x1 : Bool) (y0 : Int32) {q : Int32 × Fn} (hf : f_X8_told_b11 w0 x1 y0 = some q) : GW p l e rmX8_told s m args below meth c A D 2 0 0 (MQ below (cmQ D cy A (some (.int q.1)) ([AI cy 107 g0 q.2] : List va_W).flatten) args s 0 0 A) 11 [(1, .int (b2i x1))] [.int y0, .ref g0] [AI cy 107 g0 w0] := by
  unfold f_X8_told_b11 at hf
  refine g_dup2 X dX8_told_11 rfl rfl ?_
  obtain ⟨n429, hf⟩ := oguard hf
  refine g_iaload X dX8_told_12 0 0 rfl rfl n429 ?_
  refine g_iconst X (1 : Int32) dX8_told_13 (by decide) ?_
  refine g_iadd X dX8_told_14 ?_
  obtain ⟨n430, hf⟩ := oguard hf
  refine g_iastore (gs' := [AI cy 107 g0 (upd w0 y0.toNatClampNeg ((w0 y0.toNatClampNeg) + (1 : Int32)))]) X dX8_told_15 0 0 rfl rfl n430 rfl ?_
  refine g_iload_n X dX8_told_16 0 rfl rfl ?_
  refine g_if_eq X 24 dX8_told_17 (by decide) (fun c431 => ?_) (fun c431 => ?_)
  · have hf := opos c431 hf
    refine g_iconst X (0 : Int32) dX8_told_24 (by decide) ?_
    have hf := Option.some.inj hf
    subst hf
    exact g_iret X hr dX8_told_25
  · have hf := oneg c431 hf
    refine g_iconst X (1 : Int32) dX8_told_20 (by decide) ?_
    refine g_goto X 25 dX8_told_21 (by decide) ?_
    have hf := Option.some.inj hf
    subst hf
    exact g_iret X hr dX8_told_25
def f_X8_told (w0 : Fn) (p1 : Bool) : Option (Int32 × Fn) :=
  if (b2i p1) = 0 then f_X8_told_b11 w0 p1 (6 : Int32) else f_X8_told_b11 w0 p1 (5 : Int32)
set_option maxRecDepth 100000 in
set_option maxHeartbeats 4000000 in
theorem c_X8_told (l : Launch) (D : va_G) (cy : Nat → ClassId) (ad : (Nat → Nat) × (Nat → Nat)) (g0 : Nat) (w0 : Fn) (p1 : Bool) {q : Int32 × Fn} (hf : f_X8_told w0 p1 = some q) : CM l yX8_told cX8_told 2 (some .int) rmX8_told D cy ad [.ref g0, .int (b2i p1)] [AI cy 107 g0 w0] (some (.int q.1)) [AI cy 107 g0 q.2] := by
  refine cm_of (lv0 := [(0, .ref g0), (1, .int (b2i p1))]) (by decide) (Nat.le_of_ble_eq_true rfl) rfl ?_
  intro p e s m args below meth c A X hr hn
  have X : gK p s m args meth c A D cy ad cX8_told 2 RX8 := X
  unfold f_X8_told at hf
  refine g_aload_n X dX8_told_0 0 rfl rfl ?_
  refine g_iload_n X dX8_told_1 1 rfl rfl ?_
  refine g_if_eq X 9 dX8_told_2 (by decide) (fun c432 => ?_) (fun c432 => ?_)
  · have hf := opos c432 hf
    refine g_bipush X (6 : Int32) dX8_told_9 (by decide) ?_
    refine g_sub [1] (lv' := [(1, .int (b2i p1))]) rfl ?_
    exact j_X8_told_b11 X hr w0 p1 (6 : Int32) hf
  · have hf := oneg c432 hf
    refine g_iconst X (5 : Int32) dX8_told_5 (by decide) ?_
    refine g_goto X 11 dX8_told_6 (by decide) ?_
    refine g_sub [1] (lv' := [(1, .int (b2i p1))]) rfl ?_
    exact j_X8_told_b11 X hr w0 p1 (5 : Int32) hf
abbrev rmX8_accuseOn : Room := ({ frames := 1, cells := 0, slots := 0, locals := 21 } : Room)
def f_X8_accuseOn_b27 (w0 : Fn) (y0 : Bool) : Option (Int32 × Fn) :=
  (f_X8_told w0 y0).bind (fun q435 => some (q435.1, q435.2))
set_option maxRecDepth 100000 in
set_option maxHeartbeats 4000000 in
theorem j_X8_accuseOn_b27 {p : Program} {l : Launch} {e : Env} {s : State} {m : MethodId} {args : Array Value} {below : List Frame} {meth : Method} {c : Code} {A : Nat → Prop} {D : va_G} {cy : Nat → ClassId} {ad : (Nat → Nat) × (Nat → Nat)} (X : gK p s m args meth c A D cy ad cX8_accuseOn 3 RX8) (hr : meth.sig.returnType = (some .int)) {g0 : Nat} (w0 : Fn) (y0 : Bool) {q : Int32 × Fn} (hf : f_X8_accuseOn_b27 w0 y0 = some q) : GW p l e rmX8_accuseOn s m args below meth c A D 3 0 0 (MQ below (cmQ D cy A (some (.int q.1)) ([AI cy 107 g0 q.2] : List va_W).flatten) args s 0 0 A) 27 [] [.int (b2i y0), .ref g0] [AI cy 107 g0 w0] := by
  unfold f_X8_accuseOn_b27 at hf
  obtain ⟨q435, hq435, hf⟩ := obind hf
  refine g_callS (gs' := [AI cy 107 g0 q435.2]) (rest := []) X dX8_accuseOn_27 (c_X8_told l D cy ad g0 w0 y0 hq435) mf_X8_told ms_X8_told lkm_X8_93 ⟨(Nat.le_of_ble_eq_true rfl), (Nat.le_of_ble_eq_true rfl), (Nat.le_of_ble_eq_true rfl), (Nat.le_of_ble_eq_true rfl)⟩ [0] _ (by decide : [0].Perm (List.range 1)) rfl (by decide : [0].Perm (List.range 1)) rfl (Nat.le_of_ble_eq_true rfl) rfl ?_
  have hf := Option.some.inj hf
  subst hf
  exact g_iret X hr dX8_accuseOn_30
def f_X8_accuseOn_b18 (w0 : Fn) (y0 : Bool) (y1 : Int32) (y2 : Int32) : Option (Int32 × Fn) :=
  if y2 = (y1 + (b2i y0)) then f_X8_accuseOn_b27 w0 true else f_X8_accuseOn_b27 w0 false
set_option maxRecDepth 100000 in
set_option maxHeartbeats 4000000 in
theorem j_X8_accuseOn_b18 {p : Program} {l : Launch} {e : Env} {s : State} {m : MethodId} {args : Array Value} {below : List Frame} {meth : Method} {c : Code} {A : Nat → Prop} {D : va_G} {cy : Nat → ClassId} {ad : (Nat → Nat) × (Nat → Nat)} (X : gK p s m args meth c A D cy ad cX8_accuseOn 3 RX8) (hr : meth.sig.returnType = (some .int)) {g0 : Nat} (w0 : Fn) (y0 : Bool) (y1 : Int32) (y2 : Int32) {q : Int32 × Fn} (hf : f_X8_accuseOn_b18 w0 y0 y1 y2 = some q) : GW p l e rmX8_accuseOn s m args below meth c A D 3 0 0 (MQ below (cmQ D cy A (some (.int q.1)) ([AI cy 107 g0 q.2] : List va_W).flatten) args s 0 0 A) 18 [] [.int (b2i y0), .int y1, .int y2, .ref g0] [AI cy 107 g0 w0] := by
  unfold f_X8_accuseOn_b18 at hf
  refine g_iadd X dX8_accuseOn_18 ?_
  refine g_icmp_ne X 26 dX8_accuseOn_19 (by decide) (fun c436 => ?_) (fun c436 => ?_)
  · have hf := oneg c436 hf
    refine g_iconst X (0 : Int32) dX8_accuseOn_26 (by decide) ?_
    exact j_X8_accuseOn_b27 X hr w0 false hf
  · have hf := opos c436 hf
    refine g_iconst X (1 : Int32) dX8_accuseOn_22 (by decide) ?_
    refine g_goto X 27 dX8_accuseOn_23 (by decide) ?_
    exact j_X8_accuseOn_b27 X hr w0 true hf
def f_X8_accuseOn (w0 : Fn) (p1 : Int32) (p2 : Bool) : Option (Int32 × Fn) :=
  if (b2i p2) = 0 then f_X8_accuseOn_b18 w0 false ((2 : Int32) * p1) ((w0 (1 : Int32).toNatClampNeg) / (3 : Int32)) else f_X8_accuseOn_b18 w0 true ((2 : Int32) * p1) ((w0 (1 : Int32).toNatClampNeg) / (3 : Int32))
set_option maxRecDepth 100000 in
set_option maxHeartbeats 4000000 in
theorem c_X8_accuseOn (l : Launch) (D : va_G) (cy : Nat → ClassId) (ad : (Nat → Nat) × (Nat → Nat)) (g0 : Nat) (w0 : Fn) (p1 : Int32) (p2 : Bool) {q : Int32 × Fn} (hf : f_X8_accuseOn w0 p1 p2 = some q) : CM l yX8_accuseOn cX8_accuseOn 3 (some .int) rmX8_accuseOn D cy ad [.ref g0, .int p1, .int (b2i p2)] [AI cy 107 g0 w0] (some (.int q.1)) [AI cy 107 g0 q.2] := by
  refine cm_of (lv0 := [(0, .ref g0), (1, .int p1), (2, .int (b2i p2))]) (by decide) (Nat.le_of_ble_eq_true rfl) rfl ?_
  intro p e s m args below meth c A X hr hn
  have X : gK p s m args meth c A D cy ad cX8_accuseOn 3 RX8 := X
  unfold f_X8_accuseOn at hf
  refine g_aload_n X dX8_accuseOn_0 0 rfl rfl ?_
  refine g_aload_n X dX8_accuseOn_1 0 rfl rfl ?_
  refine g_iconst X (1 : Int32) dX8_accuseOn_2 (by decide) ?_
  refine g_iaload X dX8_accuseOn_3 0 0 rfl rfl (by decide) ?_
  refine g_iconst X (3 : Int32) dX8_accuseOn_4 (by decide) ?_
  refine g_idiv X dX8_accuseOn_5 (by decide) ?_
  refine g_iconst X (2 : Int32) dX8_accuseOn_6 (by decide) ?_
  refine g_iload_n X dX8_accuseOn_7 1 rfl rfl ?_
  refine g_imul X dX8_accuseOn_8 ?_
  refine g_iload_n X dX8_accuseOn_9 2 rfl rfl ?_
  refine g_if_eq X 17 dX8_accuseOn_10 (by decide) (fun c437 => ?_) (fun c437 => ?_)
  · have hf := opos c437 hf
    refine g_iconst X (0 : Int32) dX8_accuseOn_17 (by decide) ?_
    refine g_sub [] (lv' := []) rfl ?_
    exact j_X8_accuseOn_b18 X hr w0 false ((2 : Int32) * p1) ((w0 (1 : Int32).toNatClampNeg) / (3 : Int32)) hf
  · have hf := oneg c437 hf
    refine g_iconst X (1 : Int32) dX8_accuseOn_13 (by decide) ?_
    refine g_goto X 18 dX8_accuseOn_14 (by decide) ?_
    refine g_sub [] (lv' := []) rfl ?_
    exact j_X8_accuseOn_b18 X hr w0 true ((2 : Int32) * p1) ((w0 (1 : Int32).toNatClampNeg) / (3 : Int32)) hf
abbrev rmX8_forgetOn : Room := ({ frames := 0, cells := 0, slots := 0, locals := 0 } : Room)
def f_X8_forgetOn (w0 : Fn) : Option (Int32 × Fn) :=
  some (((upd w0 (4 : Int32).toNatClampNeg ((w0 (4 : Int32).toNatClampNeg) - (1 : Int32))) (4 : Int32).toNatClampNeg), (upd w0 (4 : Int32).toNatClampNeg ((w0 (4 : Int32).toNatClampNeg) - (1 : Int32))))
set_option maxRecDepth 100000 in
set_option maxHeartbeats 4000000 in
theorem c_X8_forgetOn (l : Launch) (D : va_G) (cy : Nat → ClassId) (ad : (Nat → Nat) × (Nat → Nat)) (g0 : Nat) (w0 : Fn) {q : Int32 × Fn} (hf : f_X8_forgetOn w0 = some q) : CM l yX8_forgetOn cX8_forgetOn 1 (some .int) rmX8_forgetOn D cy ad [.ref g0] [AI cy 107 g0 w0] (some (.int q.1)) [AI cy 107 g0 q.2] := by
  refine cm_of (lv0 := [(0, .ref g0)]) (by decide) (Nat.le_of_ble_eq_true rfl) rfl ?_
  intro p e s m args below meth c A X hr hn
  have X : gK p s m args meth c A D cy ad cX8_forgetOn 1 RX8 := X
  unfold f_X8_forgetOn at hf
  refine g_aload_n X dX8_forgetOn_0 0 rfl rfl ?_
  refine g_iconst X (4 : Int32) dX8_forgetOn_1 (by decide) ?_
  refine g_dup2 X dX8_forgetOn_2 rfl rfl ?_
  refine g_iaload X dX8_forgetOn_3 0 0 rfl rfl (by decide) ?_
  refine g_iconst X (1 : Int32) dX8_forgetOn_4 (by decide) ?_
  refine g_isub X dX8_forgetOn_5 ?_
  refine g_iastore (gs' := [AI cy 107 g0 (upd w0 (4 : Int32).toNatClampNeg ((w0 (4 : Int32).toNatClampNeg) - (1 : Int32)))]) X dX8_forgetOn_6 0 0 rfl rfl (by decide) rfl ?_
  refine g_aload_n X dX8_forgetOn_7 0 rfl rfl ?_
  refine g_iconst X (4 : Int32) dX8_forgetOn_8 (by decide) ?_
  refine g_iaload X dX8_forgetOn_9 0 0 rfl rfl (by decide) ?_
  have hf := Option.some.inj hf
  subst hf
  exact g_iret X hr dX8_forgetOn_10
abbrev rmX8_append : Room := ({ frames := 1, cells := 0, slots := 0, locals := 25 } : Room)
def f_X8_append_b31 (v0 : MOv) (v1 : Fn) (x1 : Int32) (y0 : Int32) : Option (Int32 × MOv × Fn) :=
  (f_X8_refused v0 y0).bind (fun q445 => if (b2i q445.1) = 0 then if q445.2.2.1 < 0 ∨ 120 ≤ q445.2.2.1.toNatClampNeg then none else some ((q445.2.2.1 + (1 : Int32)), (q445.2.1, (q445.2.2.1 + (1 : Int32)), q445.2.2.2.1, q445.2.2.2.2.1, q445.2.2.2.2.2.1, q445.2.2.2.2.2.2), (upd v1 q445.2.2.1.toNatClampNeg x1)) else some ((0 : Int32), q445.2, v1))
set_option maxRecDepth 100000 in
set_option maxHeartbeats 4000000 in
theorem j_X8_append_b31 {p : Program} {l : Launch} {e : Env} {s : State} {m : MethodId} {args : Array Value} {below : List Frame} {meth : Method} {c : Code} {A : Nat → Prop} {D : va_G} {cy : Nat → ClassId} {ad : (Nat → Nat) × (Nat → Nat)} (X : gK p s m args meth c A D cy ad cX8_append 2 RX8) (hr : meth.sig.returnType = (some .int)) {h0 h1 h2 h3 h4 h5 h6 h7 h8 : Nat} (v0 : MOv) (v1 : Fn) (x1 : Int32) (y0 : Int32) {q : Int32 × MOv × Fn} (hf : f_X8_append_b31 v0 v1 x1 y0 = some q) : GW p l e rmX8_append s m args below meth c A D 2 0 0 (MQ below (cmQ D cy A (some (.int q.1)) ([MO h0 h1 h2 h3 h4 h5 h6 h7 h8 q.2.1, AI cy 120 h1 q.2.2] : List va_W).flatten) args s 0 0 A) 31 [(0, .ref h0), (1, .int x1)] [.int y0, .ref h0] [MO h0 h1 h2 h3 h4 h5 h6 h7 h8 v0, AI cy 120 h1 v1] := by
  unfold f_X8_append_b31 at hf
  obtain ⟨q445, hq445, hf⟩ := obind hf
  refine g_callV (gs' := [MO h0 h1 h2 h3 h4 h5 h6 h7 h8 q445.2, AI cy 120 h1 v1]) (rest := []) X dX8_append_31 (c_X8_refused l D cy ad h0 h1 h2 h3 h4 h5 h6 h7 h8 v0 y0 hq445) mf_X8_refused mv_X8_refused lkm_X8_102 ⟨(Nat.le_of_ble_eq_true rfl), (Nat.le_of_ble_eq_true rfl), (Nat.le_of_ble_eq_true rfl), (Nat.le_of_ble_eq_true rfl)⟩ 0 0 rfl rfl rfl rfl [0, 1] _ (by decide : [0, 1].Perm (List.range 2)) rfl (by decide : [0, 1].Perm (List.range 2)) rfl (Nat.le_of_ble_eq_true rfl) rfl ?_
  refine g_if_eq X 39 dX8_append_34 (by decide) (fun c447 => ?_) (fun c447 => ?_)
  · have hf := opos c447 hf
    refine g_aload_n X dX8_append_39 0 rfl rfl ?_
    refine g_get X dX8_append_40 ck_X8 0 0 1 rfl rfl (Nat.le_of_ble_eq_true rfl) lkf_X8_7 rfl ?_
    refine g_aload_n X dX8_append_43 0 rfl rfl ?_
    refine g_get X dX8_append_44 ck_X8 0 0 2 rfl rfl (Nat.le_of_ble_eq_true rfl) lkf_X8_99 rfl ?_
    refine g_iload_n X dX8_append_47 1 rfl rfl ?_
    obtain ⟨n446, hf⟩ := oguard hf
    refine g_iastore (gs' := [MO h0 h1 h2 h3 h4 h5 h6 h7 h8 q445.2, AI cy 120 h1 (upd v1 q445.2.2.1.toNatClampNeg x1)]) X dX8_append_48 1 0 rfl rfl n446 rfl ?_
    refine g_aload_n X dX8_append_49 0 rfl rfl ?_
    refine g_dup X dX8_append_50 rfl ?_
    refine g_get X dX8_append_51 ck_X8 0 0 2 rfl rfl (Nat.le_of_ble_eq_true rfl) lkf_X8_99 rfl ?_
    refine g_iconst X (1 : Int32) dX8_append_54 (by decide) ?_
    refine g_iadd X dX8_append_55 ?_
    refine g_put (gs' := [MO h0 h1 h2 h3 h4 h5 h6 h7 h8 (q445.2.1, (q445.2.2.1 + (1 : Int32)), q445.2.2.2.1, q445.2.2.2.2.1, q445.2.2.2.2.2.1, q445.2.2.2.2.2.2), AI cy 120 h1 (upd v1 q445.2.2.1.toNatClampNeg x1)]) X dX8_append_56 ck_X8 ct_X8 0 0 2 rfl rfl (Nat.le_of_ble_eq_true rfl) lkf_X8_99 rfl rfl rfl (Nat.le_of_ble_eq_true rfl) rfl ?_
    refine g_aload_n X dX8_append_59 0 rfl rfl ?_
    refine g_get X dX8_append_60 ck_X8 0 0 2 rfl rfl (Nat.le_of_ble_eq_true rfl) lkf_X8_99 rfl ?_
    have hf := Option.some.inj hf
    subst hf
    exact g_iret X hr dX8_append_63
  · have hf := oneg c447 hf
    refine g_iconst X (0 : Int32) dX8_append_37 (by decide) ?_
    have hf := Option.some.inj hf
    subst hf
    exact g_iret X hr dX8_append_38
def f_X8_append (v0 : MOv) (v1 : Fn) (p1 : Int32) : Option (Int32 × MOv × Fn) :=
  (f_X8_in (p1.toInt64) (0 : Int64) (255 : Int64)).bind (fun q444 => if (b2i q444) = 0 then f_X8_append_b31 v0 v1 p1 (1 : Int32) else if v0.2.1 = (120 : Int32) then f_X8_append_b31 v0 v1 p1 (2 : Int32) else f_X8_append_b31 v0 v1 p1 (0 : Int32))
set_option maxRecDepth 100000 in
set_option maxHeartbeats 4000000 in
theorem c_X8_append (l : Launch) (D : va_G) (cy : Nat → ClassId) (ad : (Nat → Nat) × (Nat → Nat)) (h0 h1 h2 h3 h4 h5 h6 h7 h8 : Nat) (v0 : MOv) (v1 : Fn) (p1 : Int32) {q : Int32 × MOv × Fn} (hf : f_X8_append v0 v1 p1 = some q) : CM l yX8_append cX8_append 2 (some .int) rmX8_append D cy ad [.ref h0, .int p1] [MO h0 h1 h2 h3 h4 h5 h6 h7 h8 v0, AI cy 120 h1 v1] (some (.int q.1)) [MO h0 h1 h2 h3 h4 h5 h6 h7 h8 q.2.1, AI cy 120 h1 q.2.2] := by
  refine cm_of (lv0 := [(0, .ref h0), (1, .int p1)]) (by decide) (Nat.le_of_ble_eq_true rfl) rfl ?_
  intro p e s m args below meth c A X hr hn
  have X : gK p s m args meth c A D cy ad cX8_append 2 RX8 := X
  unfold f_X8_append at hf
  refine g_aload_n X dX8_append_0 0 rfl rfl ?_
  refine g_iload_n X dX8_append_1 1 rfl rfl ?_
  refine g_i2l X dX8_append_2 ?_
  refine g_lconst X (0 : Int64) dX8_append_3 (by decide) ?_
  refine g_ldc2 X lkl_X8_97 dX8_append_4 ?_
  obtain ⟨q444, hq444, hf⟩ := obind hf
  refine g_callS (gs' := [MO h0 h1 h2 h3 h4 h5 h6 h7 h8 v0, AI cy 120 h1 v1]) (rest := [.ref h0]) X dX8_append_7 (c_X8_in l D cy ad (p1.toInt64) (0 : Int64) (255 : Int64) hq444) mf_X8_in ms_X8_in lkm_X8_43 ⟨(Nat.le_of_ble_eq_true rfl), (Nat.le_of_ble_eq_true rfl), (Nat.le_of_ble_eq_true rfl), (Nat.le_of_ble_eq_true rfl)⟩ [0, 1] _ (by decide : [0, 1].Perm (List.range 2)) rfl (by decide : [0, 1].Perm (List.range 2)) rfl (Nat.le_of_ble_eq_true rfl) rfl ?_
  refine g_if_ne X 17 dX8_append_10 (by decide) (fun c449 => ?_) (fun c449 => ?_)
  · have hf := oneg c449 hf
    refine g_aload_n X dX8_append_17 0 rfl rfl ?_
    refine g_get X dX8_append_18 ck_X8 0 0 2 rfl rfl (Nat.le_of_ble_eq_true rfl) lkf_X8_99 rfl ?_
    refine g_bipush X (120 : Int32) dX8_append_21 (by decide) ?_
    refine g_icmp_ne X 30 dX8_append_23 (by decide) (fun c448 => ?_) (fun c448 => ?_)
    · have hf := oneg c448 hf
      refine g_iconst X (0 : Int32) dX8_append_30 (by decide) ?_
      exact j_X8_append_b31 X hr v0 v1 p1 (0 : Int32) hf
    · have hf := opos c448 hf
      refine g_iconst X (2 : Int32) dX8_append_26 (by decide) ?_
      refine g_goto X 31 dX8_append_27 (by decide) ?_
      exact j_X8_append_b31 X hr v0 v1 p1 (2 : Int32) hf
  · have hf := opos c449 hf
    refine g_iconst X (1 : Int32) dX8_append_13 (by decide) ?_
    refine g_goto X 31 dX8_append_14 (by decide) ?_
    exact j_X8_append_b31 X hr v0 v1 p1 (1 : Int32) hf
abbrev rmX8_clearText : Room := ({ frames := 0, cells := 0, slots := 0, locals := 0 } : Room)
def f_X8_clearText (v0 : MOv) : Option (Int32 × MOv) :=
  some (v0.2.1, ((0 : Int32), (0 : Int32), v0.2.2.1, v0.2.2.2.1, v0.2.2.2.2.1, v0.2.2.2.2.2))
set_option maxRecDepth 100000 in
set_option maxHeartbeats 4000000 in
theorem c_X8_clearText (l : Launch) (D : va_G) (cy : Nat → ClassId) (ad : (Nat → Nat) × (Nat → Nat)) (h0 h1 h2 h3 h4 h5 h6 h7 h8 : Nat) (v0 : MOv) {q : Int32 × MOv} (hf : f_X8_clearText v0 = some q) : CM l yX8_clearText cX8_clearText 2 (some .int) rmX8_clearText D cy ad [.ref h0] [MO h0 h1 h2 h3 h4 h5 h6 h7 h8 v0] (some (.int q.1)) [MO h0 h1 h2 h3 h4 h5 h6 h7 h8 q.2] := by
  refine cm_of (lv0 := [(0, .ref h0)]) (by decide) (Nat.le_of_ble_eq_true rfl) rfl ?_
  intro p e s m args below meth c A X hr hn
  have X : gK p s m args meth c A D cy ad cX8_clearText 2 RX8 := X
  unfold f_X8_clearText at hf
  refine g_aload_n X dX8_clearText_0 0 rfl rfl ?_
  refine g_iconst X (0 : Int32) dX8_clearText_1 (by decide) ?_
  refine g_put (gs' := [MO h0 h1 h2 h3 h4 h5 h6 h7 h8 ((0 : Int32), v0.2.1, v0.2.2.1, v0.2.2.2.1, v0.2.2.2.2.1, v0.2.2.2.2.2)]) X dX8_clearText_2 ck_X8 ct_X8 0 0 0 rfl rfl (Nat.le_of_ble_eq_true rfl) lkf_X8_39 rfl rfl rfl (Nat.le_of_ble_eq_true rfl) rfl ?_
  refine g_aload_n X dX8_clearText_5 0 rfl rfl ?_
  refine g_get X dX8_clearText_6 ck_X8 0 0 2 rfl rfl (Nat.le_of_ble_eq_true rfl) lkf_X8_99 rfl ?_
  refine g_istore_n (lv' := [(0, .ref h0), (1, .int v0.2.1)]) X dX8_clearText_9 [1, 0] rfl (Nat.le_of_ble_eq_true rfl) rfl ?_
  refine g_aload_n X dX8_clearText_10 0 rfl rfl ?_
  refine g_iconst X (0 : Int32) dX8_clearText_11 (by decide) ?_
  refine g_put (gs' := [MO h0 h1 h2 h3 h4 h5 h6 h7 h8 ((0 : Int32), (0 : Int32), v0.2.2.1, v0.2.2.2.1, v0.2.2.2.2.1, v0.2.2.2.2.2)]) X dX8_clearText_12 ck_X8 ct_X8 0 0 2 rfl rfl (Nat.le_of_ble_eq_true rfl) lkf_X8_99 rfl rfl rfl (Nat.le_of_ble_eq_true rfl) rfl ?_
  refine g_iload_n X dX8_clearText_15 1 rfl rfl ?_
  have hf := Option.some.inj hf
  subst hf
  exact g_iret X hr dX8_clearText_16
abbrev rmX8_sign : Room := ({ frames := 0, cells := 0, slots := 0, locals := 0 } : Room)
def f_X8_sign (v0 : MOv) (v1 : Fn) : Option (Int32) :=
  if v0.2.1 ≤ v0.2.2.2.2.1 then some (-1 : Int32) else if v0.2.2.2.2.1 < 0 ∨ 120 ≤ v0.2.2.2.2.1.toNatClampNeg then none else some (v1 v0.2.2.2.2.1.toNatClampNeg)
set_option maxRecDepth 100000 in
set_option maxHeartbeats 4000000 in
theorem c_X8_sign (l : Launch) (D : va_G) (cy : Nat → ClassId) (ad : (Nat → Nat) × (Nat → Nat)) (h0 h1 h2 h3 h4 h5 h6 h7 h8 : Nat) (v0 : MOv) (v1 : Fn) {q : Int32} (hf : f_X8_sign v0 v1 = some q) : CM l yX8_sign cX8_sign 1 (some .int) rmX8_sign D cy ad [.ref h0] [MO h0 h1 h2 h3 h4 h5 h6 h7 h8 v0, AI cy 120 h1 v1] (some (.int q)) [MO h0 h1 h2 h3 h4 h5 h6 h7 h8 v0, AI cy 120 h1 v1] := by
  refine cm_of (lv0 := [(0, .ref h0)]) (by decide) (Nat.le_of_ble_eq_true rfl) rfl ?_
  intro p e s m args below meth c A X hr hn
  have X : gK p s m args meth c A D cy ad cX8_sign 1 RX8 := X
  unfold f_X8_sign at hf
  refine g_aload_n X dX8_sign_0 0 rfl rfl ?_
  refine g_get X dX8_sign_1 ck_X8 0 0 12 rfl rfl (Nat.le_of_ble_eq_true rfl) lkf_X8_106 rfl ?_
  refine g_aload_n X dX8_sign_4 0 rfl rfl ?_
  refine g_get X dX8_sign_5 ck_X8 0 0 2 rfl rfl (Nat.le_of_ble_eq_true rfl) lkf_X8_99 rfl ?_
  refine g_icmp_ge X 23 dX8_sign_8 (by decide) (fun c453 => ?_) (fun c453 => ?_)
  · have hf := opos c453 hf
    refine g_iconst X (-1 : Int32) dX8_sign_23 (by decide) ?_
    have hf := Option.some.inj hf
    subst hf
    exact g_iret X hr dX8_sign_24
  · have hf := oneg c453 hf
    refine g_aload_n X dX8_sign_11 0 rfl rfl ?_
    refine g_get X dX8_sign_12 ck_X8 0 0 1 rfl rfl (Nat.le_of_ble_eq_true rfl) lkf_X8_7 rfl ?_
    refine g_aload_n X dX8_sign_15 0 rfl rfl ?_
    refine g_get X dX8_sign_16 ck_X8 0 0 12 rfl rfl (Nat.le_of_ble_eq_true rfl) lkf_X8_106 rfl ?_
    obtain ⟨n452, hf⟩ := oguard hf
    refine g_iaload X dX8_sign_19 1 0 rfl rfl n452 ?_
    refine g_goto X 24 dX8_sign_20 (by decide) ?_
    have hf := Option.some.inj hf
    subst hf
    exact g_iret X hr dX8_sign_24
abbrev rmX8_figures : Room := ({ frames := 1, cells := 0, slots := 0, locals := 25 } : Room)
def f_X8_figures_B16 (v1 : Fn) (x1 : Int32) (x3 : Int32) (x4 : Int32) (z : Int32 × Int32 × MOv) : Option ((Int32 × Int32 × MOv) ⊕ ((MOv) ⊕ (Int32 × MOv))) :=
  if z.2.1 ≤ 0 then some (.inr (.inr (z.1, z.2.2))) else if x1 = (-1 : Int32) then some (.inr (.inr (z.1, z.2.2))) else (f_X8_sign z.2.2 v1).bind (fun q458 => (f_X8_in ((q458 - (48 : Int32)).toInt64) (0 : Int64) (9 : Int64)).bind (fun q459 => if (b2i q459) = 0 then some (.inr (.inl (z.2.2))) else if x4 < (z.1 + ((q458 - (48 : Int32)) * z.2.1)) then some (.inr (.inl (z.2.2))) else if x3 ≤ (((z.1 + ((q458 - (48 : Int32)) * z.2.1)) + z.2.1) - (1 : Int32)) then some (.inl ((z.1 + ((q458 - (48 : Int32)) * z.2.1)), (z.2.1 / (10 : Int32)), (z.2.2.1, z.2.2.2.1, z.2.2.2.2.1, z.2.2.2.2.2.1, (z.2.2.2.2.2.2.1 + (1 : Int32)), z.2.2.2.2.2.2.2))) else some (.inr (.inl (z.2.2)))))
set_option maxRecDepth 100000 in
set_option maxHeartbeats 4000000 in
theorem b_X8_figures_B16 {p : Program} {l : Launch} {e : Env} {s : State} {m : MethodId} {args : Array Value} {below : List Frame} {meth : Method} {c : Code} {A : Nat → Prop} {D : va_G} {cy : Nat → ClassId} {ad : (Nat → Nat) × (Nat → Nat)} {Q : State → Prop} (X : gK p s m args meth c A D cy ad cX8_figures 9 RX8) (hr : meth.sig.returnType = (some .int)) {h0 h1 h2 h3 h4 h5 h6 h7 h8 : Nat} (v1 : Fn) (x1 : Int32) (x3 : Int32) (x4 : Int32) (z : Int32 × Int32 × MOv) {q : (Int32 × Int32 × MOv) ⊕ ((MOv) ⊕ (Int32 × MOv))} (hf : f_X8_figures_B16 v1 x1 x3 x4 z = some q) (K1 : ∀ s' : Int32 × Int32 × MOv, q = .inl s' → GW p l e rmX8_figures s m args below meth c A D 9 0 0 Q 16 [(0, .ref h0), (1, .int x1), (3, .int x3), (4, .int x4), (5, .int s'.1), (6, .int s'.2.1)] [] [MO h0 h1 h2 h3 h4 h5 h6 h7 h8 (s'.2.2.1, s'.2.2.2.1, s'.2.2.2.2.1, s'.2.2.2.2.2.1, s'.2.2.2.2.2.2.1, s'.2.2.2.2.2.2.2), AI cy 120 h1 v1]) (K2 : ∀ e' : MOv, q = .inr (.inl e') → GW p l e rmX8_figures s m args below meth c A D 9 0 0 Q 76 [] [] [MO h0 h1 h2 h3 h4 h5 h6 h7 h8 (e'.1, e'.2.1, e'.2.2.1, e'.2.2.2.1, e'.2.2.2.2.1, e'.2.2.2.2.2), AI cy 120 h1 v1]) (K3 : ∀ e' : Int32 × MOv, q = .inr (.inr e') → GW p l e rmX8_figures s m args below meth c A D 9 0 0 Q 102 [(1, .int x1), (5, .int e'.1)] [] [MO h0 h1 h2 h3 h4 h5 h6 h7 h8 (e'.2.1, e'.2.2.1, e'.2.2.2.1, e'.2.2.2.2.1, e'.2.2.2.2.2.1, e'.2.2.2.2.2.2), AI cy 120 h1 v1]) : GW p l e rmX8_figures s m args below meth c A D 9 0 0 Q 16 [(0, .ref h0), (1, .int x1), (3, .int x3), (4, .int x4), (5, .int z.1), (6, .int z.2.1)] [] [MO h0 h1 h2 h3 h4 h5 h6 h7 h8 z.2.2, AI cy 120 h1 v1] := by
  unfold f_X8_figures_B16 at hf
  refine g_iload X dX8_figures_16 5 rfl ?_
  refine g_if_le X 102 dX8_figures_18 (by decide) (fun c464 => ?_) (fun c464 => ?_)
  · have hf := opos c464 hf
    refine g_sub [1, 4] (lv' := [(1, .int x1), (5, .int z.1)]) rfl ?_
    exact K3 (z.1, z.2.2) (Option.some.inj hf).symm
  · have hf := oneg c464 hf
    refine g_iload_n X dX8_figures_21 1 rfl rfl ?_
    refine g_iconst X (-1 : Int32) dX8_figures_22 (by decide) ?_
    refine g_icmp_eq X 102 dX8_figures_23 (by decide) (fun c463 => ?_) (fun c463 => ?_)
    · have hf := opos c463 hf
      refine g_sub [1, 4] (lv' := [(1, .int x1), (5, .int z.1)]) rfl ?_
      exact K3 (z.1, z.2.2) (Option.some.inj hf).symm
    · have hf := oneg c463 hf
      refine g_aload_n X dX8_figures_26 0 rfl rfl ?_
      obtain ⟨q458, hq458, hf⟩ := obind hf
      refine g_callV (gs' := [MO h0 h1 h2 h3 h4 h5 h6 h7 h8 z.2.2, AI cy 120 h1 v1]) (rest := []) X dX8_figures_27 (c_X8_sign l D cy ad h0 h1 h2 h3 h4 h5 h6 h7 h8 z.2.2 v1 hq458) mf_X8_sign mv_X8_sign lkm_X8_109 ⟨(Nat.le_of_ble_eq_true rfl), (Nat.le_of_ble_eq_true rfl), (Nat.le_of_ble_eq_true rfl), (Nat.le_of_ble_eq_true rfl)⟩ 0 0 rfl rfl rfl rfl [0, 1] _ (by decide : [0, 1].Perm (List.range 2)) rfl (by decide : [0, 1].Perm (List.range 2)) rfl (Nat.le_of_ble_eq_true rfl) rfl ?_
      refine g_bipush X (48 : Int32) dX8_figures_30 (by decide) ?_
      refine g_isub X dX8_figures_32 ?_
      refine g_istore (lv' := [(0, .ref h0), (1, .int x1), (3, .int x3), (4, .int x4), (5, .int z.1), (6, .int z.2.1), (7, .int (q458 - (48 : Int32)))]) X dX8_figures_33 [1, 2, 3, 4, 5, 6, 0] (Nat.le_of_ble_eq_true rfl) rfl ?_
      refine g_iload X dX8_figures_35 4 rfl ?_
      refine g_iload X dX8_figures_37 6 rfl ?_
      refine g_iload X dX8_figures_39 5 rfl ?_
      refine g_imul X dX8_figures_41 ?_
      refine g_iadd X dX8_figures_42 ?_
      refine g_istore (lv' := [(0, .ref h0), (1, .int x1), (3, .int x3), (4, .int x4), (5, .int z.1), (6, .int z.2.1), (7, .int (q458 - (48 : Int32))), (8, .int (z.1 + ((q458 - (48 : Int32)) * z.2.1)))]) X dX8_figures_43 [1, 2, 3, 4, 5, 6, 7, 0] (Nat.le_of_ble_eq_true rfl) rfl ?_
      refine g_iload X dX8_figures_45 6 rfl ?_
      refine g_i2l X dX8_figures_47 ?_
      refine g_lconst X (0 : Int64) dX8_figures_48 (by decide) ?_
      refine g_ldc2 X lkl_X8_113 dX8_figures_49 ?_
      obtain ⟨q459, hq459, hf⟩ := obind hf
      refine g_callS (gs' := [MO h0 h1 h2 h3 h4 h5 h6 h7 h8 z.2.2, AI cy 120 h1 v1]) (rest := []) X dX8_figures_52 (c_X8_in l D cy ad ((q458 - (48 : Int32)).toInt64) (0 : Int64) (9 : Int64) hq459) mf_X8_in ms_X8_in lkm_X8_43 ⟨(Nat.le_of_ble_eq_true rfl), (Nat.le_of_ble_eq_true rfl), (Nat.le_of_ble_eq_true rfl), (Nat.le_of_ble_eq_true rfl)⟩ [0, 1] _ (by decide : [0, 1].Perm (List.range 2)) rfl (by decide : [0, 1].Perm (List.range 2)) rfl (Nat.le_of_ble_eq_true rfl) rfl ?_
      refine g_if_eq X 76 dX8_figures_55 (by decide) (fun c462 => ?_) (fun c462 => ?_)
      · have hf := opos c462 hf
        refine g_sub [] (lv' := []) rfl ?_
        exact K2 (z.2.2) (Option.some.inj hf).symm
      · have hf := oneg c462 hf
        refine g_iload X dX8_figures_58 7 rfl ?_
        refine g_iload X dX8_figures_60 3 rfl ?_
        refine g_icmp_gt X 76 dX8_figures_62 (by decide) (fun c461 => ?_) (fun c461 => ?_)
        · have hf := opos c461 hf
          refine g_sub [] (lv' := []) rfl ?_
          exact K2 (z.2.2) (Option.some.inj hf).symm
        · have hf := oneg c461 hf
          refine g_iload X dX8_figures_65 7 rfl ?_
          refine g_iload X dX8_figures_67 5 rfl ?_
          refine g_iadd X dX8_figures_69 ?_
          refine g_iconst X (1 : Int32) dX8_figures_70 (by decide) ?_
          refine g_isub X dX8_figures_71 ?_
          refine g_iload_n X dX8_figures_72 2 rfl rfl ?_
          refine g_icmp_ge X 78 dX8_figures_73 (by decide) (fun c460 => ?_) (fun c460 => ?_)
          · have hf := opos c460 hf
            refine g_iload X dX8_figures_78 7 rfl ?_
            refine g_istore (lv' := [(0, .ref h0), (1, .int x1), (3, .int x3), (4, .int x4), (5, .int (z.1 + ((q458 - (48 : Int32)) * z.2.1))), (6, .int z.2.1), (7, .int (q458 - (48 : Int32))), (8, .int (z.1 + ((q458 - (48 : Int32)) * z.2.1)))]) X dX8_figures_80 [1, 2, 3, 4, 0, 5, 6, 7] (Nat.le_of_ble_eq_true rfl) rfl ?_
            refine g_aload_n X dX8_figures_82 0 rfl rfl ?_
            refine g_dup X dX8_figures_83 rfl ?_
            refine g_get X dX8_figures_84 ck_X8 0 0 12 rfl rfl (Nat.le_of_ble_eq_true rfl) lkf_X8_106 rfl ?_
            refine g_iconst X (1 : Int32) dX8_figures_87 (by decide) ?_
            refine g_iadd X dX8_figures_88 ?_
            refine g_put (gs' := [MO h0 h1 h2 h3 h4 h5 h6 h7 h8 (z.2.2.1, z.2.2.2.1, z.2.2.2.2.1, z.2.2.2.2.2.1, (z.2.2.2.2.2.2.1 + (1 : Int32)), z.2.2.2.2.2.2.2), AI cy 120 h1 v1]) X dX8_figures_89 ck_X8 ct_X8 0 0 12 rfl rfl (Nat.le_of_ble_eq_true rfl) lkf_X8_106 rfl rfl rfl (Nat.le_of_ble_eq_true rfl) rfl ?_
            refine g_iload X dX8_figures_92 5 rfl ?_
            refine g_bipush X (10 : Int32) dX8_figures_94 (by decide) ?_
            refine g_idiv X dX8_figures_96 (by decide) ?_
            refine g_istore (lv' := [(0, .ref h0), (1, .int x1), (3, .int x3), (4, .int x4), (5, .int (z.1 + ((q458 - (48 : Int32)) * z.2.1))), (6, .int (z.2.1 / (10 : Int32))), (7, .int (q458 - (48 : Int32))), (8, .int (z.1 + ((q458 - (48 : Int32)) * z.2.1)))]) X dX8_figures_97 [1, 2, 3, 4, 5, 0, 6, 7] (Nat.le_of_ble_eq_true rfl) rfl ?_
            refine g_goto X 16 dX8_figures_99 (by decide) ?_
            refine g_sub [0, 1, 2, 3, 4, 5] (lv' := [(0, .ref h0), (1, .int x1), (3, .int x3), (4, .int x4), (5, .int (z.1 + ((q458 - (48 : Int32)) * z.2.1))), (6, .int (z.2.1 / (10 : Int32)))]) rfl ?_
            exact K1 ((z.1 + ((q458 - (48 : Int32)) * z.2.1)), (z.2.1 / (10 : Int32)), (z.2.2.1, z.2.2.2.1, z.2.2.2.2.1, z.2.2.2.2.2.1, (z.2.2.2.2.2.2.1 + (1 : Int32)), z.2.2.2.2.2.2.2)) (Option.some.inj hf).symm
          · have hf := oneg c460 hf
            refine g_sub [] (lv' := []) rfl ?_
            exact K2 (z.2.2) (Option.some.inj hf).symm
set_option maxRecDepth 100000 in
set_option maxHeartbeats 4000000 in
theorem w_X8_figures_B16 {p : Program} {l : Launch} {e : Env} {s : State} {m : MethodId} {args : Array Value} {below : List Frame} {meth : Method} {c : Code} {A : Nat → Prop} {D : va_G} {cy : Nat → ClassId} {ad : (Nat → Nat) × (Nat → Nat)} {Q : State → Prop} (X : gK p s m args meth c A D cy ad cX8_figures 9 RX8) (hr : meth.sig.returnType = (some .int)) {h0 h1 h2 h3 h4 h5 h6 h7 h8 : Nat} (v1 : Fn) (x1 : Int32) (x3 : Int32) (x4 : Int32) {n : Nat} {z : Int32 × Int32 × MOv} {q : (MOv) ⊕ (Int32 × MOv)} (hf : itl (f_X8_figures_B16 v1 x1 x3 x4) n z = some q) (K2 : ∀ e' : MOv, q = .inl e' → GW p l e rmX8_figures s m args below meth c A D 9 0 0 Q 76 [] [] [MO h0 h1 h2 h3 h4 h5 h6 h7 h8 (e'.1, e'.2.1, e'.2.2.1, e'.2.2.2.1, e'.2.2.2.2.1, e'.2.2.2.2.2), AI cy 120 h1 v1]) (K3 : ∀ e' : Int32 × MOv, q = .inr e' → GW p l e rmX8_figures s m args below meth c A D 9 0 0 Q 102 [(1, .int x1), (5, .int e'.1)] [] [MO h0 h1 h2 h3 h4 h5 h6 h7 h8 (e'.2.1, e'.2.2.1, e'.2.2.2.1, e'.2.2.2.2.1, e'.2.2.2.2.2.1, e'.2.2.2.2.2.2), AI cy 120 h1 v1]) : GW p l e rmX8_figures s m args below meth c A D 9 0 0 Q 16 [(0, .ref h0), (1, .int x1), (3, .int x3), (4, .int x4), (5, .int z.1), (6, .int z.2.1)] [] [MO h0 h1 h2 h3 h4 h5 h6 h7 h8 z.2.2, AI cy 120 h1 v1] :=
  itl_ind (f := f_X8_figures_B16 v1 x1 x3 x4) (I := fun z => GW p l e rmX8_figures s m args below meth c A D 9 0 0 Q 16 [(0, .ref h0), (1, .int x1), (3, .int x3), (4, .int x4), (5, .int z.1), (6, .int z.2.1)] [] [MO h0 h1 h2 h3 h4 h5 h6 h7 h8 z.2.2, AI cy 120 h1 v1]) (J := (fun q => (∀ e' : MOv, q = .inl e' → GW p l e rmX8_figures s m args below meth c A D 9 0 0 Q 76 [] [] [MO h0 h1 h2 h3 h4 h5 h6 h7 h8 (e'.1, e'.2.1, e'.2.2.1, e'.2.2.2.1, e'.2.2.2.2.1, e'.2.2.2.2.2), AI cy 120 h1 v1]) ∧ (∀ e' : Int32 × MOv, q = .inr e' → GW p l e rmX8_figures s m args below meth c A D 9 0 0 Q 102 [(1, .int x1), (5, .int e'.1)] [] [MO h0 h1 h2 h3 h4 h5 h6 h7 h8 (e'.2.1, e'.2.2.1, e'.2.2.2.1, e'.2.2.2.2.1, e'.2.2.2.2.2.1, e'.2.2.2.2.2.2), AI cy 120 h1 v1]))) (fun z x h k1 k2 => b_X8_figures_B16 X hr v1 x1 x3 x4 z h (fun s' hs => k1 s' hs) (fun e' he => (k2 _ he).1 e' rfl) (fun e' he => (k2 _ he).2 e' rfl)) n z q hf ⟨K2, K3⟩
def f_X8_figures_b102 (v0 : MOv) (v1 : Fn) (x1 : Int32) (x5 : Int32) : Option (Int32 × MOv) :=
  if x1 = (-1 : Int32) then some ((-1 : Int32), v0) else some (x5, v0)
set_option maxRecDepth 100000 in
set_option maxHeartbeats 4000000 in
theorem j_X8_figures_b102 {p : Program} {l : Launch} {e : Env} {s : State} {m : MethodId} {args : Array Value} {below : List Frame} {meth : Method} {c : Code} {A : Nat → Prop} {D : va_G} {cy : Nat → ClassId} {ad : (Nat → Nat) × (Nat → Nat)} (X : gK p s m args meth c A D cy ad cX8_figures 9 RX8) (hr : meth.sig.returnType = (some .int)) {h0 h1 h2 h3 h4 h5 h6 h7 h8 : Nat} (v0 : MOv) (v1 : Fn) (x1 : Int32) (x5 : Int32) {q : Int32 × MOv} (hf : f_X8_figures_b102 v0 v1 x1 x5 = some q) : GW p l e rmX8_figures s m args below meth c A D 9 0 0 (MQ below (cmQ D cy A (some (.int q.1)) ([MO h0 h1 h2 h3 h4 h5 h6 h7 h8 q.2, AI cy 120 h1 v1] : List va_W).flatten) args s 0 0 A) 102 [(1, .int x1), (5, .int x5)] [] [MO h0 h1 h2 h3 h4 h5 h6 h7 h8 v0, AI cy 120 h1 v1] := by
  unfold f_X8_figures_b102 at hf
  refine g_iload_n X dX8_figures_102 0 rfl rfl ?_
  refine g_iconst X (-1 : Int32) dX8_figures_103 (by decide) ?_
  refine g_icmp_ne X 111 dX8_figures_104 (by decide) (fun c466 => ?_) (fun c466 => ?_)
  · have hf := oneg c466 hf
    refine g_iload X dX8_figures_111 1 rfl ?_
    have hf := Option.some.inj hf
    subst hf
    exact g_iret X hr dX8_figures_113
  · have hf := opos c466 hf
    refine g_iconst X (-1 : Int32) dX8_figures_107 (by decide) ?_
    refine g_goto X 113 dX8_figures_108 (by decide) ?_
    have hf := Option.some.inj hf
    subst hf
    exact g_iret X hr dX8_figures_113
def f_X8_figures_b14 (v0 : MOv) (v1 : Fn) (x1 : Int32) (x3 : Int32) (x4 : Int32) (x5 : Int32) (y0 : Int32) : Option (Int32 × MOv) :=
  (itl (f_X8_figures_B16 v1 x1 x3 x4) FU (x5, y0, v0)).bind (Sum.elim (fun q465e => some ((-1 : Int32), q465e)) (fun q465e => f_X8_figures_b102 q465e.2 v1 x1 q465e.1))
set_option maxRecDepth 100000 in
set_option maxHeartbeats 4000000 in
theorem j_X8_figures_b14 {p : Program} {l : Launch} {e : Env} {s : State} {m : MethodId} {args : Array Value} {below : List Frame} {meth : Method} {c : Code} {A : Nat → Prop} {D : va_G} {cy : Nat → ClassId} {ad : (Nat → Nat) × (Nat → Nat)} (X : gK p s m args meth c A D cy ad cX8_figures 9 RX8) (hr : meth.sig.returnType = (some .int)) {h0 h1 h2 h3 h4 h5 h6 h7 h8 : Nat} (v0 : MOv) (v1 : Fn) (x1 : Int32) (x3 : Int32) (x4 : Int32) (x5 : Int32) (y0 : Int32) {q : Int32 × MOv} (hf : f_X8_figures_b14 v0 v1 x1 x3 x4 x5 y0 = some q) : GW p l e rmX8_figures s m args below meth c A D 9 0 0 (MQ below (cmQ D cy A (some (.int q.1)) ([MO h0 h1 h2 h3 h4 h5 h6 h7 h8 q.2, AI cy 120 h1 v1] : List va_W).flatten) args s 0 0 A) 14 [(0, .ref h0), (1, .int x1), (3, .int x3), (4, .int x4), (5, .int x5)] [.int y0] [MO h0 h1 h2 h3 h4 h5 h6 h7 h8 v0, AI cy 120 h1 v1] := by
  unfold f_X8_figures_b14 at hf
  refine g_istore (lv' := [(0, .ref h0), (1, .int x1), (3, .int x3), (4, .int x4), (5, .int x5), (6, .int y0)]) X dX8_figures_14 [1, 2, 3, 4, 5, 0] (Nat.le_of_ble_eq_true rfl) rfl ?_
  obtain ⟨q465, hq465, hf⟩ := obind hf
  refine w_X8_figures_B16 X hr v1 x1 x3 x4 hq465 (fun q465e hq465e => ?_) (fun q465e hq465e => ?_)
  · subst hq465e
    have hf := sinl hf
    refine g_iconst X (-1 : Int32) dX8_figures_76 (by decide) ?_
    have hf := Option.some.inj hf
    subst hf
    exact g_iret X hr dX8_figures_77
  · subst hq465e
    have hf := sinr hf
    exact j_X8_figures_b102 X hr q465e.2 v1 x1 q465e.1 hf
def f_X8_figures (v0 : MOv) (v1 : Fn) (p1 : Int32) (p2 : Int32) (p3 : Int32) (p4 : Int32) : Option (Int32 × MOv) :=
  if p2 = (2 : Int32) then f_X8_figures_b14 v0 v1 p1 p3 p4 (0 : Int32) (10 : Int32) else f_X8_figures_b14 v0 v1 p1 p3 p4 (0 : Int32) (1 : Int32)
set_option maxRecDepth 100000 in
set_option maxHeartbeats 4000000 in
theorem c_X8_figures (l : Launch) (D : va_G) (cy : Nat → ClassId) (ad : (Nat → Nat) × (Nat → Nat)) (h0 h1 h2 h3 h4 h5 h6 h7 h8 : Nat) (v0 : MOv) (v1 : Fn) (p1 : Int32) (p2 : Int32) (p3 : Int32) (p4 : Int32) {q : Int32 × MOv} (hf : f_X8_figures v0 v1 p1 p2 p3 p4 = some q) : CM l yX8_figures cX8_figures 9 (some .int) rmX8_figures D cy ad [.ref h0, .int p1, .int p2, .int p3, .int p4] [MO h0 h1 h2 h3 h4 h5 h6 h7 h8 v0, AI cy 120 h1 v1] (some (.int q.1)) [MO h0 h1 h2 h3 h4 h5 h6 h7 h8 q.2, AI cy 120 h1 v1] := by
  refine cm_of (lv0 := [(0, .ref h0), (1, .int p1), (2, .int p2), (3, .int p3), (4, .int p4)]) (by decide) (Nat.le_of_ble_eq_true rfl) rfl ?_
  intro p e s m args below meth c A X hr hn
  have X : gK p s m args meth c A D cy ad cX8_figures 9 RX8 := X
  unfold f_X8_figures at hf
  refine g_iconst X (0 : Int32) dX8_figures_0 (by decide) ?_
  refine g_istore (lv' := [(0, .ref h0), (1, .int p1), (2, .int p2), (3, .int p3), (4, .int p4), (5, .int (0 : Int32))]) X dX8_figures_1 [1, 2, 3, 4, 5, 0] (Nat.le_of_ble_eq_true rfl) rfl ?_
  refine g_iload_n X dX8_figures_3 2 rfl rfl ?_
  refine g_iconst X (2 : Int32) dX8_figures_4 (by decide) ?_
  refine g_icmp_ne X 13 dX8_figures_5 (by decide) (fun c467 => ?_) (fun c467 => ?_)
  · have hf := oneg c467 hf
    refine g_iconst X (1 : Int32) dX8_figures_13 (by decide) ?_
    refine g_sub [0, 1, 3, 4, 5] (lv' := [(0, .ref h0), (1, .int p1), (3, .int p3), (4, .int p4), (5, .int (0 : Int32))]) rfl ?_
    exact j_X8_figures_b14 X hr v0 v1 p1 p3 p4 (0 : Int32) (1 : Int32) hf
  · have hf := opos c467 hf
    refine g_bipush X (10 : Int32) dX8_figures_8 (by decide) ?_
    refine g_goto X 14 dX8_figures_10 (by decide) ?_
    refine g_sub [0, 1, 3, 4, 5] (lv' := [(0, .ref h0), (1, .int p1), (3, .int p3), (4, .int p4), (5, .int (0 : Int32))]) rfl ?_
    exact j_X8_figures_b14 X hr v0 v1 p1 p3 p4 (0 : Int32) (10 : Int32) hf
abbrev rmX8_letters : Room := ({ frames := 1, cells := 0, slots := 0, locals := 25 } : Room)
def f_X8_letters_B5 (v1 : Fn) (x1 : Int32) (z : Int32 × Int32 × MOv) : Option ((Int32 × Int32 × MOv) ⊕ ((Int32 × MOv))) :=
  (f_X8_sign z.2.2 v1).bind (fun q478 => (f_X8_in (q478.toInt64) (z.2.1.toInt64) (108 : Int64)).bind (fun q479 => if (b2i q479) = 0 then some (.inr ((z.1, z.2.2))) else (f_X8_sign z.2.2 v1).bind (fun q480 => (f_X8_sign z.2.2 v1).bind (fun q481 => some (.inl ((z.1 ||| ((1 : Int32) <<< ((q480 - (97 : Int32)) &&& 31))), (q481 + (1 : Int32)), (z.2.2.1, z.2.2.2.1, z.2.2.2.2.1, z.2.2.2.2.2.1, (z.2.2.2.2.2.2.1 + (1 : Int32)), z.2.2.2.2.2.2.2)))))))
set_option maxRecDepth 100000 in
set_option maxHeartbeats 4000000 in
theorem b_X8_letters_B5 {p : Program} {l : Launch} {e : Env} {s : State} {m : MethodId} {args : Array Value} {below : List Frame} {meth : Method} {c : Code} {A : Nat → Prop} {D : va_G} {cy : Nat → ClassId} {ad : (Nat → Nat) × (Nat → Nat)} {Q : State → Prop} (X : gK p s m args meth c A D cy ad cX8_letters 4 RX8) (hr : meth.sig.returnType = (some .int)) {h0 h1 h2 h3 h4 h5 h6 h7 h8 : Nat} (v1 : Fn) (x1 : Int32) (z : Int32 × Int32 × MOv) {q : (Int32 × Int32 × MOv) ⊕ ((Int32 × MOv))} (hf : f_X8_letters_B5 v1 x1 z = some q) (K1 : ∀ s' : Int32 × Int32 × MOv, q = .inl s' → GW p l e rmX8_letters s m args below meth c A D 4 0 0 Q 5 [(0, .ref h0), (1, .int x1), (2, .int s'.1), (3, .int s'.2.1)] [] [MO h0 h1 h2 h3 h4 h5 h6 h7 h8 (s'.2.2.1, s'.2.2.2.1, s'.2.2.2.2.1, s'.2.2.2.2.2.1, s'.2.2.2.2.2.2.1, s'.2.2.2.2.2.2.2), AI cy 120 h1 v1]) (K2 : ∀ e' : Int32 × MOv, q = .inr (e') → GW p l e rmX8_letters s m args below meth c A D 4 0 0 Q 53 [(0, .ref h0), (1, .int x1), (2, .int e'.1)] [] [MO h0 h1 h2 h3 h4 h5 h6 h7 h8 (e'.2.1, e'.2.2.1, e'.2.2.2.1, e'.2.2.2.2.1, e'.2.2.2.2.2.1, e'.2.2.2.2.2.2), AI cy 120 h1 v1]) : GW p l e rmX8_letters s m args below meth c A D 4 0 0 Q 5 [(0, .ref h0), (1, .int x1), (2, .int z.1), (3, .int z.2.1)] [] [MO h0 h1 h2 h3 h4 h5 h6 h7 h8 z.2.2, AI cy 120 h1 v1] := by
  unfold f_X8_letters_B5 at hf
  refine g_aload_n X dX8_letters_5 0 rfl rfl ?_
  obtain ⟨q478, hq478, hf⟩ := obind hf
  refine g_callV (gs' := [MO h0 h1 h2 h3 h4 h5 h6 h7 h8 z.2.2, AI cy 120 h1 v1]) (rest := []) X dX8_letters_6 (c_X8_sign l D cy ad h0 h1 h2 h3 h4 h5 h6 h7 h8 z.2.2 v1 hq478) mf_X8_sign mv_X8_sign lkm_X8_109 ⟨(Nat.le_of_ble_eq_true rfl), (Nat.le_of_ble_eq_true rfl), (Nat.le_of_ble_eq_true rfl), (Nat.le_of_ble_eq_true rfl)⟩ 0 0 rfl rfl rfl rfl [0, 1] _ (by decide : [0, 1].Perm (List.range 2)) rfl (by decide : [0, 1].Perm (List.range 2)) rfl (Nat.le_of_ble_eq_true rfl) rfl ?_
  refine g_i2l X dX8_letters_9 ?_
  refine g_iload_n X dX8_letters_10 3 rfl rfl ?_
  refine g_i2l X dX8_letters_11 ?_
  refine g_ldc2 X lkl_X8_115 dX8_letters_12 ?_
  obtain ⟨q479, hq479, hf⟩ := obind hf
  refine g_callS (gs' := [MO h0 h1 h2 h3 h4 h5 h6 h7 h8 z.2.2, AI cy 120 h1 v1]) (rest := []) X dX8_letters_15 (c_X8_in l D cy ad (q478.toInt64) (z.2.1.toInt64) (108 : Int64) hq479) mf_X8_in ms_X8_in lkm_X8_43 ⟨(Nat.le_of_ble_eq_true rfl), (Nat.le_of_ble_eq_true rfl), (Nat.le_of_ble_eq_true rfl), (Nat.le_of_ble_eq_true rfl)⟩ [0, 1] _ (by decide : [0, 1].Perm (List.range 2)) rfl (by decide : [0, 1].Perm (List.range 2)) rfl (Nat.le_of_ble_eq_true rfl) rfl ?_
  refine g_if_eq X 53 dX8_letters_18 (by decide) (fun c482 => ?_) (fun c482 => ?_)
  · have hf := opos c482 hf
    refine g_sub [0, 1, 2] (lv' := [(0, .ref h0), (1, .int x1), (2, .int z.1)]) rfl ?_
    exact K2 (z.1, z.2.2) (Option.some.inj hf).symm
  · have hf := oneg c482 hf
    refine g_iload_n X dX8_letters_21 2 rfl rfl ?_
    refine g_iconst X (1 : Int32) dX8_letters_22 (by decide) ?_
    refine g_aload_n X dX8_letters_23 0 rfl rfl ?_
    obtain ⟨q480, hq480, hf⟩ := obind hf
    refine g_callV (gs' := [MO h0 h1 h2 h3 h4 h5 h6 h7 h8 z.2.2, AI cy 120 h1 v1]) (rest := [.int (1 : Int32), .int z.1]) X dX8_letters_24 (c_X8_sign l D cy ad h0 h1 h2 h3 h4 h5 h6 h7 h8 z.2.2 v1 hq480) mf_X8_sign mv_X8_sign lkm_X8_109 ⟨(Nat.le_of_ble_eq_true rfl), (Nat.le_of_ble_eq_true rfl), (Nat.le_of_ble_eq_true rfl), (Nat.le_of_ble_eq_true rfl)⟩ 0 0 rfl rfl rfl rfl [0, 1] _ (by decide : [0, 1].Perm (List.range 2)) rfl (by decide : [0, 1].Perm (List.range 2)) rfl (Nat.le_of_ble_eq_true rfl) rfl ?_
    refine g_bipush X (97 : Int32) dX8_letters_27 (by decide) ?_
    refine g_isub X dX8_letters_29 ?_
    refine g_ishl X dX8_letters_30 ?_
    refine g_ior X dX8_letters_31 ?_
    refine g_istore_n (lv' := [(0, .ref h0), (1, .int x1), (2, .int (z.1 ||| ((1 : Int32) <<< ((q480 - (97 : Int32)) &&& 31)))), (3, .int z.2.1)]) X dX8_letters_32 [1, 2, 0, 3] rfl (Nat.le_of_ble_eq_true rfl) rfl ?_
    refine g_aload_n X dX8_letters_33 0 rfl rfl ?_
    obtain ⟨q481, hq481, hf⟩ := obind hf
    refine g_callV (gs' := [MO h0 h1 h2 h3 h4 h5 h6 h7 h8 z.2.2, AI cy 120 h1 v1]) (rest := []) X dX8_letters_34 (c_X8_sign l D cy ad h0 h1 h2 h3 h4 h5 h6 h7 h8 z.2.2 v1 hq481) mf_X8_sign mv_X8_sign lkm_X8_109 ⟨(Nat.le_of_ble_eq_true rfl), (Nat.le_of_ble_eq_true rfl), (Nat.le_of_ble_eq_true rfl), (Nat.le_of_ble_eq_true rfl)⟩ 0 0 rfl rfl rfl rfl [0, 1] _ (by decide : [0, 1].Perm (List.range 2)) rfl (by decide : [0, 1].Perm (List.range 2)) rfl (Nat.le_of_ble_eq_true rfl) rfl ?_
    refine g_iconst X (1 : Int32) dX8_letters_37 (by decide) ?_
    refine g_iadd X dX8_letters_38 ?_
    refine g_istore_n (lv' := [(0, .ref h0), (1, .int x1), (2, .int (z.1 ||| ((1 : Int32) <<< ((q480 - (97 : Int32)) &&& 31)))), (3, .int (q481 + (1 : Int32)))]) X dX8_letters_39 [1, 2, 3, 0] rfl (Nat.le_of_ble_eq_true rfl) rfl ?_
    refine g_aload_n X dX8_letters_40 0 rfl rfl ?_
    refine g_dup X dX8_letters_41 rfl ?_
    refine g_get X dX8_letters_42 ck_X8 0 0 12 rfl rfl (Nat.le_of_ble_eq_true rfl) lkf_X8_106 rfl ?_
    refine g_iconst X (1 : Int32) dX8_letters_45 (by decide) ?_
    refine g_iadd X dX8_letters_46 ?_
    refine g_put (gs' := [MO h0 h1 h2 h3 h4 h5 h6 h7 h8 (z.2.2.1, z.2.2.2.1, z.2.2.2.2.1, z.2.2.2.2.2.1, (z.2.2.2.2.2.2.1 + (1 : Int32)), z.2.2.2.2.2.2.2), AI cy 120 h1 v1]) X dX8_letters_47 ck_X8 ct_X8 0 0 12 rfl rfl (Nat.le_of_ble_eq_true rfl) lkf_X8_106 rfl rfl rfl (Nat.le_of_ble_eq_true rfl) rfl ?_
    refine g_goto X 5 dX8_letters_50 (by decide) ?_
    exact K1 ((z.1 ||| ((1 : Int32) <<< ((q480 - (97 : Int32)) &&& 31))), (q481 + (1 : Int32)), (z.2.2.1, z.2.2.2.1, z.2.2.2.2.1, z.2.2.2.2.2.1, (z.2.2.2.2.2.2.1 + (1 : Int32)), z.2.2.2.2.2.2.2)) (Option.some.inj hf).symm
set_option maxRecDepth 100000 in
set_option maxHeartbeats 4000000 in
theorem w_X8_letters_B5 {p : Program} {l : Launch} {e : Env} {s : State} {m : MethodId} {args : Array Value} {below : List Frame} {meth : Method} {c : Code} {A : Nat → Prop} {D : va_G} {cy : Nat → ClassId} {ad : (Nat → Nat) × (Nat → Nat)} {Q : State → Prop} (X : gK p s m args meth c A D cy ad cX8_letters 4 RX8) (hr : meth.sig.returnType = (some .int)) {h0 h1 h2 h3 h4 h5 h6 h7 h8 : Nat} (v1 : Fn) (x1 : Int32) {n : Nat} {z : Int32 × Int32 × MOv} {q : (Int32 × MOv)} (hf : itl (f_X8_letters_B5 v1 x1) n z = some q) (K2 : GW p l e rmX8_letters s m args below meth c A D 4 0 0 Q 53 [(0, .ref h0), (1, .int x1), (2, .int q.1)] [] [MO h0 h1 h2 h3 h4 h5 h6 h7 h8 q.2, AI cy 120 h1 v1]) : GW p l e rmX8_letters s m args below meth c A D 4 0 0 Q 5 [(0, .ref h0), (1, .int x1), (2, .int z.1), (3, .int z.2.1)] [] [MO h0 h1 h2 h3 h4 h5 h6 h7 h8 z.2.2, AI cy 120 h1 v1] :=
  itl_ind (f := f_X8_letters_B5 v1 x1) (I := fun z => GW p l e rmX8_letters s m args below meth c A D 4 0 0 Q 5 [(0, .ref h0), (1, .int x1), (2, .int z.1), (3, .int z.2.1)] [] [MO h0 h1 h2 h3 h4 h5 h6 h7 h8 z.2.2, AI cy 120 h1 v1]) (J := (fun q => GW p l e rmX8_letters s m args below meth c A D 4 0 0 Q 53 [(0, .ref h0), (1, .int x1), (2, .int q.1)] [] [MO h0 h1 h2 h3 h4 h5 h6 h7 h8 q.2, AI cy 120 h1 v1])) (fun z x h k1 k2 => b_X8_letters_B5 X hr v1 x1 z h (fun s' hs => k1 s' hs) (fun e' he => k2 e' he)) n z q hf K2
def f_X8_letters (v0 : MOv) (v1 : Fn) (p1 : Int32) : Option (Int32 × MOv) :=
  (itl (f_X8_letters_B5 v1 p1) FU ((0 : Int32), (97 : Int32), v0)).bind (fun q483 => (f_X8_sign q483.2 v1).bind (fun q484 => if q484 = p1 then some (q483.1, (q483.2.1, q483.2.2.1, q483.2.2.2.1, q483.2.2.2.2.1, (q483.2.2.2.2.2.1 + (1 : Int32)), q483.2.2.2.2.2.2)) else some ((-1 : Int32), q483.2)))
set_option maxRecDepth 100000 in
set_option maxHeartbeats 4000000 in
theorem c_X8_letters (l : Launch) (D : va_G) (cy : Nat → ClassId) (ad : (Nat → Nat) × (Nat → Nat)) (h0 h1 h2 h3 h4 h5 h6 h7 h8 : Nat) (v0 : MOv) (v1 : Fn) (p1 : Int32) {q : Int32 × MOv} (hf : f_X8_letters v0 v1 p1 = some q) : CM l yX8_letters cX8_letters 4 (some .int) rmX8_letters D cy ad [.ref h0, .int p1] [MO h0 h1 h2 h3 h4 h5 h6 h7 h8 v0, AI cy 120 h1 v1] (some (.int q.1)) [MO h0 h1 h2 h3 h4 h5 h6 h7 h8 q.2, AI cy 120 h1 v1] := by
  refine cm_of (lv0 := [(0, .ref h0), (1, .int p1)]) (by decide) (Nat.le_of_ble_eq_true rfl) rfl ?_
  intro p e s m args below meth c A X hr hn
  have X : gK p s m args meth c A D cy ad cX8_letters 4 RX8 := X
  unfold f_X8_letters at hf
  refine g_iconst X (0 : Int32) dX8_letters_0 (by decide) ?_
  refine g_istore_n (lv' := [(0, .ref h0), (1, .int p1), (2, .int (0 : Int32))]) X dX8_letters_1 [1, 2, 0] rfl (Nat.le_of_ble_eq_true rfl) rfl ?_
  refine g_bipush X (97 : Int32) dX8_letters_2 (by decide) ?_
  refine g_istore_n (lv' := [(0, .ref h0), (1, .int p1), (2, .int (0 : Int32)), (3, .int (97 : Int32))]) X dX8_letters_4 [1, 2, 3, 0] rfl (Nat.le_of_ble_eq_true rfl) rfl ?_
  obtain ⟨q483, hq483, hf⟩ := obind hf
  refine w_X8_letters_B5 X hr v1 p1 hq483 ?_
  refine g_aload_n X dX8_letters_53 0 rfl rfl ?_
  obtain ⟨q484, hq484, hf⟩ := obind hf
  refine g_callV (gs' := [MO h0 h1 h2 h3 h4 h5 h6 h7 h8 q483.2, AI cy 120 h1 v1]) (rest := []) X dX8_letters_54 (c_X8_sign l D cy ad h0 h1 h2 h3 h4 h5 h6 h7 h8 q483.2 v1 hq484) mf_X8_sign mv_X8_sign lkm_X8_109 ⟨(Nat.le_of_ble_eq_true rfl), (Nat.le_of_ble_eq_true rfl), (Nat.le_of_ble_eq_true rfl), (Nat.le_of_ble_eq_true rfl)⟩ 0 0 rfl rfl rfl rfl [0, 1] _ (by decide : [0, 1].Perm (List.range 2)) rfl (by decide : [0, 1].Perm (List.range 2)) rfl (Nat.le_of_ble_eq_true rfl) rfl ?_
  refine g_iload_n X dX8_letters_57 1 rfl rfl ?_
  refine g_icmp_eq X 63 dX8_letters_58 (by decide) (fun c485 => ?_) (fun c485 => ?_)
  · have hf := opos c485 hf
    refine g_aload_n X dX8_letters_63 0 rfl rfl ?_
    refine g_dup X dX8_letters_64 rfl ?_
    refine g_get X dX8_letters_65 ck_X8 0 0 12 rfl rfl (Nat.le_of_ble_eq_true rfl) lkf_X8_106 rfl ?_
    refine g_iconst X (1 : Int32) dX8_letters_68 (by decide) ?_
    refine g_iadd X dX8_letters_69 ?_
    refine g_put (gs' := [MO h0 h1 h2 h3 h4 h5 h6 h7 h8 (q483.2.1, q483.2.2.1, q483.2.2.2.1, q483.2.2.2.2.1, (q483.2.2.2.2.2.1 + (1 : Int32)), q483.2.2.2.2.2.2), AI cy 120 h1 v1]) X dX8_letters_70 ck_X8 ct_X8 0 0 12 rfl rfl (Nat.le_of_ble_eq_true rfl) lkf_X8_106 rfl rfl rfl (Nat.le_of_ble_eq_true rfl) rfl ?_
    refine g_iload_n X dX8_letters_73 2 rfl rfl ?_
    have hf := Option.some.inj hf
    subst hf
    exact g_iret X hr dX8_letters_74
  · have hf := oneg c485 hf
    refine g_iconst X (-1 : Int32) dX8_letters_61 (by decide) ?_
    have hf := Option.some.inj hf
    subst hf
    exact g_iret X hr dX8_letters_62
abbrev rmX8_done : Room := ({ frames := 0, cells := 0, slots := 0, locals := 0 } : Room)
def f_X8_done_b14 (v0 : MOv) (y0 : Bool) (y1 : Int32) : Option (Bool × MOv) :=
  some (true, (v0.1, v0.2.1, v0.2.2.1, v0.2.2.2.1, v0.2.2.2.2.1, (y1 + (b2i y0))))
set_option maxRecDepth 100000 in
set_option maxHeartbeats 4000000 in
theorem j_X8_done_b14 {p : Program} {l : Launch} {e : Env} {s : State} {m : MethodId} {args : Array Value} {below : List Frame} {meth : Method} {c : Code} {A : Nat → Prop} {D : va_G} {cy : Nat → ClassId} {ad : (Nat → Nat) × (Nat → Nat)} (X : gK p s m args meth c A D cy ad cX8_done 2 RX8) (hr : meth.sig.returnType = (some .boolean)) {h0 h1 h2 h3 h4 h5 h6 h7 h8 : Nat} (v0 : MOv) (y0 : Bool) (y1 : Int32) {q : Bool × MOv} (hf : f_X8_done_b14 v0 y0 y1 = some q) : GW p l e rmX8_done s m args below meth c A D 2 0 0 (MQ below (cmQ D cy A (some (.int (b2i q.1))) ([MO h0 h1 h2 h3 h4 h5 h6 h7 h8 q.2] : List va_W).flatten) args s 0 0 A) 14 [] [.int (b2i y0), .int y1, .ref h0] [MO h0 h1 h2 h3 h4 h5 h6 h7 h8 v0] := by
  unfold f_X8_done_b14 at hf
  refine g_iadd X dX8_done_14 ?_
  refine g_put (gs' := [MO h0 h1 h2 h3 h4 h5 h6 h7 h8 (v0.1, v0.2.1, v0.2.2.1, v0.2.2.2.1, v0.2.2.2.2.1, (y1 + (b2i y0)))]) X dX8_done_15 ck_X8 ct_X8 0 0 13 rfl rfl (Nat.le_of_ble_eq_true rfl) lkf_X8_117 rfl rfl rfl (Nat.le_of_ble_eq_true rfl) rfl ?_
  refine g_iconst X (1 : Int32) dX8_done_18 (by decide) ?_
  have hf := Option.some.inj hf
  subst hf
  exact g_zret (b := true) X hr dX8_done_19
def f_X8_done (v0 : MOv) (p1 : Bool) : Option (Bool × MOv) :=
  if (b2i p1) = 0 then f_X8_done_b14 v0 true v0.2.2.2.2.2 else f_X8_done_b14 v0 false v0.2.2.2.2.2
set_option maxRecDepth 100000 in
set_option maxHeartbeats 4000000 in
theorem c_X8_done (l : Launch) (D : va_G) (cy : Nat → ClassId) (ad : (Nat → Nat) × (Nat → Nat)) (h0 h1 h2 h3 h4 h5 h6 h7 h8 : Nat) (v0 : MOv) (p1 : Bool) {q : Bool × MOv} (hf : f_X8_done v0 p1 = some q) : CM l yX8_done cX8_done 2 (some .boolean) rmX8_done D cy ad [.ref h0, .int (b2i p1)] [MO h0 h1 h2 h3 h4 h5 h6 h7 h8 v0] (some (.int (b2i q.1))) [MO h0 h1 h2 h3 h4 h5 h6 h7 h8 q.2] := by
  refine cm_of (lv0 := [(0, .ref h0), (1, .int (b2i p1))]) (by decide) (Nat.le_of_ble_eq_true rfl) rfl ?_
  intro p e s m args below meth c A X hr hn
  have X : gK p s m args meth c A D cy ad cX8_done 2 RX8 := X
  unfold f_X8_done at hf
  refine g_aload_n X dX8_done_0 0 rfl rfl ?_
  refine g_dup X dX8_done_1 rfl ?_
  refine g_get X dX8_done_2 ck_X8 0 0 13 rfl rfl (Nat.le_of_ble_eq_true rfl) lkf_X8_117 rfl ?_
  refine g_iload_n X dX8_done_5 1 rfl rfl ?_
  refine g_if_eq X 13 dX8_done_6 (by decide) (fun c486 => ?_) (fun c486 => ?_)
  · have hf := opos c486 hf
    refine g_iconst X (1 : Int32) dX8_done_13 (by decide) ?_
    refine g_sub [] (lv' := []) rfl ?_
    exact j_X8_done_b14 X hr v0 true v0.2.2.2.2.2 hf
  · have hf := oneg c486 hf
    refine g_iconst X (0 : Int32) dX8_done_9 (by decide) ?_
    refine g_goto X 14 dX8_done_10 (by decide) ?_
    refine g_sub [] (lv' := []) rfl ?_
    exact j_X8_done_b14 X hr v0 false v0.2.2.2.2.2 hf
abbrev rmX8_readCommand : Room := ({ frames := 4, cells := 0, slots := 0, locals := 93 } : Room)
def f_X8_readCommand_b94 (v0 : MOv) (v1 : Fn) (w0 : Fn) (y0 : Bool) : Option (Bool × MOv × Fn) :=
  (f_X8_done v0 y0).bind (fun q513 => if (b2i q513.1) = 0 then some (false, q513.2, w0) else some (true, q513.2, w0))
set_option maxRecDepth 100000 in
set_option maxHeartbeats 4000000 in
theorem j_X8_readCommand_b94 {p : Program} {l : Launch} {e : Env} {s : State} {m : MethodId} {args : Array Value} {below : List Frame} {meth : Method} {c : Code} {A : Nat → Prop} {D : va_G} {cy : Nat → ClassId} {ad : (Nat → Nat) × (Nat → Nat)} (X : gK p s m args meth c A D cy ad cX8_readCommand 4 RX8) (hr : meth.sig.returnType = (some .boolean)) {h0 h1 h2 h3 h4 h5 h6 h7 h8 g0 : Nat} (v0 : MOv) (v1 : Fn) (w0 : Fn) (y0 : Bool) {q : Bool × MOv × Fn} (hf : f_X8_readCommand_b94 v0 v1 w0 y0 = some q) : GW p l e rmX8_readCommand s m args below meth c A D 4 0 0 (MQ below (cmQ D cy A (some (.int (b2i q.1))) ([MO h0 h1 h2 h3 h4 h5 h6 h7 h8 q.2.1, AI cy 120 h1 v1, AI cy 107 g0 q.2.2] : List va_W).flatten) args s 0 0 A) 94 [] [.int (b2i y0), .ref h0] [MO h0 h1 h2 h3 h4 h5 h6 h7 h8 v0, AI cy 120 h1 v1, AI cy 107 g0 w0] := by
  unfold f_X8_readCommand_b94 at hf
  obtain ⟨q513, hq513, hf⟩ := obind hf
  refine g_callV (gs' := [MO h0 h1 h2 h3 h4 h5 h6 h7 h8 q513.2, AI cy 120 h1 v1, AI cy 107 g0 w0]) (rest := []) X dX8_readCommand_94 (c_X8_done l D cy ad h0 h1 h2 h3 h4 h5 h6 h7 h8 v0 y0 hq513) mf_X8_done mv_X8_done lkm_X8_130 ⟨(Nat.le_of_ble_eq_true rfl), (Nat.le_of_ble_eq_true rfl), (Nat.le_of_ble_eq_true rfl), (Nat.le_of_ble_eq_true rfl)⟩ 0 0 rfl rfl rfl rfl [0, 1, 2] _ (by decide : [0, 1, 2].Perm (List.range 3)) rfl (by decide : [0, 1, 2].Perm (List.range 3)) rfl (Nat.le_of_ble_eq_true rfl) rfl ?_
  refine g_if_eq X 104 dX8_readCommand_97 (by decide) (fun c514 => ?_) (fun c514 => ?_)
  · have hf := opos c514 hf
    refine g_iconst X (0 : Int32) dX8_readCommand_104 (by decide) ?_
    have hf := Option.some.inj hf
    subst hf
    exact g_zret (b := false) X hr dX8_readCommand_105
  · have hf := oneg c514 hf
    refine g_iconst X (1 : Int32) dX8_readCommand_100 (by decide) ?_
    refine g_goto X 105 dX8_readCommand_101 (by decide) ?_
    have hf := Option.some.inj hf
    subst hf
    exact g_zret (b := true) X hr dX8_readCommand_105
def f_X8_readCommand_b93 (v0 : MOv) (v1 : Fn) (w0 : Fn) : Option (Bool × MOv × Fn) :=
  f_X8_readCommand_b94 v0 v1 w0 false
set_option maxRecDepth 100000 in
set_option maxHeartbeats 4000000 in
theorem j_X8_readCommand_b93 {p : Program} {l : Launch} {e : Env} {s : State} {m : MethodId} {args : Array Value} {below : List Frame} {meth : Method} {c : Code} {A : Nat → Prop} {D : va_G} {cy : Nat → ClassId} {ad : (Nat → Nat) × (Nat → Nat)} (X : gK p s m args meth c A D cy ad cX8_readCommand 4 RX8) (hr : meth.sig.returnType = (some .boolean)) {h0 h1 h2 h3 h4 h5 h6 h7 h8 g0 : Nat} (v0 : MOv) (v1 : Fn) (w0 : Fn) {q : Bool × MOv × Fn} (hf : f_X8_readCommand_b93 v0 v1 w0 = some q) : GW p l e rmX8_readCommand s m args below meth c A D 4 0 0 (MQ below (cmQ D cy A (some (.int (b2i q.1))) ([MO h0 h1 h2 h3 h4 h5 h6 h7 h8 q.2.1, AI cy 120 h1 v1, AI cy 107 g0 q.2.2] : List va_W).flatten) args s 0 0 A) 93 [] [.ref h0] [MO h0 h1 h2 h3 h4 h5 h6 h7 h8 v0, AI cy 120 h1 v1, AI cy 107 g0 w0] := by
  unfold f_X8_readCommand_b93 at hf
  refine g_iconst X (0 : Int32) dX8_readCommand_93 (by decide) ?_
  exact j_X8_readCommand_b94 X hr v0 v1 w0 false hf
def f_X8_readCommand_b64 (v0 : MOv) (v1 : Fn) (w0 : Fn) (x2 : Int32) (y0 : Int32) : Option (Bool × MOv × Fn) :=
  if y0 = (-1 : Int32) then some (false, v0, w0) else (f_X8_canWeigh w0 x2 y0).bind (fun q512 => if (b2i q512) = 0 then f_X8_readCommand_b93 v0 v1 w0 else (f_X8_weighOn w0 x2 y0).bind (fun q515 => if q515.1 < 0 then f_X8_readCommand_b93 v0 v1 q515.2 else f_X8_readCommand_b94 v0 v1 q515.2 true))
set_option maxRecDepth 100000 in
set_option maxHeartbeats 4000000 in
theorem j_X8_readCommand_b64 {p : Program} {l : Launch} {e : Env} {s : State} {m : MethodId} {args : Array Value} {below : List Frame} {meth : Method} {c : Code} {A : Nat → Prop} {D : va_G} {cy : Nat → ClassId} {ad : (Nat → Nat) × (Nat → Nat)} (X : gK p s m args meth c A D cy ad cX8_readCommand 4 RX8) (hr : meth.sig.returnType = (some .boolean)) {h0 h1 h2 h3 h4 h5 h6 h7 h8 g0 : Nat} (v0 : MOv) (v1 : Fn) (w0 : Fn) (x2 : Int32) (y0 : Int32) {q : Bool × MOv × Fn} (hf : f_X8_readCommand_b64 v0 v1 w0 x2 y0 = some q) : GW p l e rmX8_readCommand s m args below meth c A D 4 0 0 (MQ below (cmQ D cy A (some (.int (b2i q.1))) ([MO h0 h1 h2 h3 h4 h5 h6 h7 h8 q.2.1, AI cy 120 h1 v1, AI cy 107 g0 q.2.2] : List va_W).flatten) args s 0 0 A) 64 [(0, .ref h0), (1, .ref g0), (2, .int x2)] [.int y0] [MO h0 h1 h2 h3 h4 h5 h6 h7 h8 v0, AI cy 120 h1 v1, AI cy 107 g0 w0] := by
  unfold f_X8_readCommand_b64 at hf
  refine g_istore_n (lv' := [(0, .ref h0), (1, .ref g0), (2, .int x2), (3, .int y0)]) X dX8_readCommand_64 [1, 2, 3, 0] rfl (Nat.le_of_ble_eq_true rfl) rfl ?_
  refine g_iload_n X dX8_readCommand_65 3 rfl rfl ?_
  refine g_iconst X (-1 : Int32) dX8_readCommand_66 (by decide) ?_
  refine g_icmp_eq X 104 dX8_readCommand_67 (by decide) (fun c518 => ?_) (fun c518 => ?_)
  · have hf := opos c518 hf
    refine g_iconst X (0 : Int32) dX8_readCommand_104 (by decide) ?_
    have hf := Option.some.inj hf
    subst hf
    exact g_zret (b := false) X hr dX8_readCommand_105
  · have hf := oneg c518 hf
    refine g_aload_n X dX8_readCommand_70 0 rfl rfl ?_
    refine g_aload_n X dX8_readCommand_71 1 rfl rfl ?_
    refine g_iload_n X dX8_readCommand_72 2 rfl rfl ?_
    refine g_iload_n X dX8_readCommand_73 3 rfl rfl ?_
    obtain ⟨q512, hq512, hf⟩ := obind hf
    refine g_callS (gs' := [MO h0 h1 h2 h3 h4 h5 h6 h7 h8 v0, AI cy 120 h1 v1, AI cy 107 g0 w0]) (rest := [.ref h0]) X dX8_readCommand_74 (c_X8_canWeigh l D cy ad g0 w0 x2 y0 hq512) mf_X8_canWeigh ms_X8_canWeigh lkm_X8_123 ⟨(Nat.le_of_ble_eq_true rfl), (Nat.le_of_ble_eq_true rfl), (Nat.le_of_ble_eq_true rfl), (Nat.le_of_ble_eq_true rfl)⟩ [2, 0, 1] _ (by decide : [2, 0, 1].Perm (List.range 3)) rfl (by decide : [2, 0, 1].Perm (List.range 3)) rfl (Nat.le_of_ble_eq_true rfl) rfl ?_
    refine g_if_eq X 93 dX8_readCommand_77 (by decide) (fun c517 => ?_) (fun c517 => ?_)
    · have hf := opos c517 hf
      refine g_sub [] (lv' := []) rfl ?_
      exact j_X8_readCommand_b93 X hr v0 v1 w0 hf
    · have hf := oneg c517 hf
      refine g_aload_n X dX8_readCommand_80 1 rfl rfl ?_
      refine g_iload_n X dX8_readCommand_81 2 rfl rfl ?_
      refine g_iload_n X dX8_readCommand_82 3 rfl rfl ?_
      obtain ⟨q515, hq515, hf⟩ := obind hf
      refine g_callS (gs' := [MO h0 h1 h2 h3 h4 h5 h6 h7 h8 v0, AI cy 120 h1 v1, AI cy 107 g0 q515.2]) (rest := [.ref h0]) X dX8_readCommand_83 (c_X8_weighOn l D cy ad g0 w0 x2 y0 hq515) mf_X8_weighOn ms_X8_weighOn lkm_X8_126 ⟨(Nat.le_of_ble_eq_true rfl), (Nat.le_of_ble_eq_true rfl), (Nat.le_of_ble_eq_true rfl), (Nat.le_of_ble_eq_true rfl)⟩ [2, 0, 1] _ (by decide : [2, 0, 1].Perm (List.range 3)) rfl (by decide : [2, 0, 1].Perm (List.range 3)) rfl (Nat.le_of_ble_eq_true rfl) rfl ?_
      refine g_if_lt X 93 dX8_readCommand_86 (by decide) (fun c516 => ?_) (fun c516 => ?_)
      · have hf := opos c516 hf
        refine g_sub [] (lv' := []) rfl ?_
        exact j_X8_readCommand_b93 X hr v0 v1 q515.2 hf
      · have hf := oneg c516 hf
        refine g_iconst X (1 : Int32) dX8_readCommand_89 (by decide) ?_
        refine g_goto X 94 dX8_readCommand_90 (by decide) ?_
        refine g_sub [] (lv' := []) rfl ?_
        exact j_X8_readCommand_b94 X hr v0 v1 q515.2 true hf
def f_X8_readCommand_b156 (v0 : MOv) (v1 : Fn) (w0 : Fn) (y0 : Bool) : Option (Bool × MOv × Fn) :=
  (f_X8_done v0 y0).bind (fun q523 => if (b2i q523.1) = 0 then some (false, q523.2, w0) else some (true, q523.2, w0))
set_option maxRecDepth 100000 in
set_option maxHeartbeats 4000000 in
theorem j_X8_readCommand_b156 {p : Program} {l : Launch} {e : Env} {s : State} {m : MethodId} {args : Array Value} {below : List Frame} {meth : Method} {c : Code} {A : Nat → Prop} {D : va_G} {cy : Nat → ClassId} {ad : (Nat → Nat) × (Nat → Nat)} (X : gK p s m args meth c A D cy ad cX8_readCommand 4 RX8) (hr : meth.sig.returnType = (some .boolean)) {h0 h1 h2 h3 h4 h5 h6 h7 h8 g0 : Nat} (v0 : MOv) (v1 : Fn) (w0 : Fn) (y0 : Bool) {q : Bool × MOv × Fn} (hf : f_X8_readCommand_b156 v0 v1 w0 y0 = some q) : GW p l e rmX8_readCommand s m args below meth c A D 4 0 0 (MQ below (cmQ D cy A (some (.int (b2i q.1))) ([MO h0 h1 h2 h3 h4 h5 h6 h7 h8 q.2.1, AI cy 120 h1 v1, AI cy 107 g0 q.2.2] : List va_W).flatten) args s 0 0 A) 156 [] [.int (b2i y0), .ref h0] [MO h0 h1 h2 h3 h4 h5 h6 h7 h8 v0, AI cy 120 h1 v1, AI cy 107 g0 w0] := by
  unfold f_X8_readCommand_b156 at hf
  obtain ⟨q523, hq523, hf⟩ := obind hf
  refine g_callV (gs' := [MO h0 h1 h2 h3 h4 h5 h6 h7 h8 q523.2, AI cy 120 h1 v1, AI cy 107 g0 w0]) (rest := []) X dX8_readCommand_156 (c_X8_done l D cy ad h0 h1 h2 h3 h4 h5 h6 h7 h8 v0 y0 hq523) mf_X8_done mv_X8_done lkm_X8_130 ⟨(Nat.le_of_ble_eq_true rfl), (Nat.le_of_ble_eq_true rfl), (Nat.le_of_ble_eq_true rfl), (Nat.le_of_ble_eq_true rfl)⟩ 0 0 rfl rfl rfl rfl [0, 1, 2] _ (by decide : [0, 1, 2].Perm (List.range 3)) rfl (by decide : [0, 1, 2].Perm (List.range 3)) rfl (Nat.le_of_ble_eq_true rfl) rfl ?_
  refine g_if_eq X 166 dX8_readCommand_159 (by decide) (fun c524 => ?_) (fun c524 => ?_)
  · have hf := opos c524 hf
    refine g_iconst X (0 : Int32) dX8_readCommand_166 (by decide) ?_
    have hf := Option.some.inj hf
    subst hf
    exact g_zret (b := false) X hr dX8_readCommand_167
  · have hf := oneg c524 hf
    refine g_iconst X (1 : Int32) dX8_readCommand_162 (by decide) ?_
    refine g_goto X 167 dX8_readCommand_163 (by decide) ?_
    have hf := Option.some.inj hf
    subst hf
    exact g_zret (b := true) X hr dX8_readCommand_167
def f_X8_readCommand (v0 : MOv) (v1 : Fn) (w0 : Fn) : Option (Bool × MOv × Fn) :=
  (f_X8_sign v0 v1).bind (fun q507 => if q507 = (97 : Int32) then (f_X8_figures (v0.1, v0.2.1, v0.2.2.1, v0.2.2.2.1, (v0.2.2.2.2.1 + (1 : Int32)), v0.2.2.2.2.2) v1 (0 : Int32) (2 : Int32) (1 : Int32) (20 : Int32)).bind (fun q520 => (f_X8_figures q520.2 v1 q520.1 (2 : Int32) (1 : Int32) (20 : Int32)).bind (fun q521 => if q521.1 = (-1 : Int32) then some (false, q521.2, w0) else (f_X8_armsOn w0 q520.1 q521.1).bind (fun q522 => if q522.1 < 0 then f_X8_readCommand_b156 q521.2 v1 q522.2 false else f_X8_readCommand_b156 q521.2 v1 q522.2 true))) else if q507 = (119 : Int32) then (f_X8_letters (v0.1, v0.2.1, v0.2.2.1, v0.2.2.2.1, (v0.2.2.2.2.1 + (1 : Int32)), v0.2.2.2.2.2) v1 (118 : Int32)).bind (fun q510 => if q510.1 = (-1 : Int32) then f_X8_readCommand_b64 q510.2 v1 w0 q510.1 (-1 : Int32) else (f_X8_letters q510.2 v1 (46 : Int32)).bind (fun q511 => f_X8_readCommand_b64 q511.2 v1 w0 q510.1 q511.1)) else some (false, v0, w0))
set_option maxRecDepth 100000 in
set_option maxHeartbeats 4000000 in
theorem c_X8_readCommand (l : Launch) (D : va_G) (cy : Nat → ClassId) (ad : (Nat → Nat) × (Nat → Nat)) (h0 h1 h2 h3 h4 h5 h6 h7 h8 g0 : Nat) (v0 : MOv) (v1 : Fn) (w0 : Fn) {q : Bool × MOv × Fn} (hf : f_X8_readCommand v0 v1 w0 = some q) : CM l yX8_readCommand cX8_readCommand 4 (some .boolean) rmX8_readCommand D cy ad [.ref h0, .ref g0] [MO h0 h1 h2 h3 h4 h5 h6 h7 h8 v0, AI cy 120 h1 v1, AI cy 107 g0 w0] (some (.int (b2i q.1))) [MO h0 h1 h2 h3 h4 h5 h6 h7 h8 q.2.1, AI cy 120 h1 v1, AI cy 107 g0 q.2.2] := by
  refine cm_of (lv0 := [(0, .ref h0), (1, .ref g0)]) (by decide) (Nat.le_of_ble_eq_true rfl) rfl ?_
  intro p e s m args below meth c A X hr hn
  have X : gK p s m args meth c A D cy ad cX8_readCommand 4 RX8 := X
  unfold f_X8_readCommand at hf
  refine g_aload_n X dX8_readCommand_0 0 rfl rfl ?_
  obtain ⟨q507, hq507, hf⟩ := obind hf
  refine g_callV (gs' := [MO h0 h1 h2 h3 h4 h5 h6 h7 h8 v0, AI cy 120 h1 v1, AI cy 107 g0 w0]) (rest := []) X dX8_readCommand_1 (c_X8_sign l D cy ad h0 h1 h2 h3 h4 h5 h6 h7 h8 v0 v1 hq507) mf_X8_sign mv_X8_sign lkm_X8_109 ⟨(Nat.le_of_ble_eq_true rfl), (Nat.le_of_ble_eq_true rfl), (Nat.le_of_ble_eq_true rfl), (Nat.le_of_ble_eq_true rfl)⟩ 0 0 rfl rfl rfl rfl [0, 1, 2] _ (by decide : [0, 1, 2].Perm (List.range 3)) rfl (by decide : [0, 1, 2].Perm (List.range 3)) rfl (Nat.le_of_ble_eq_true rfl) rfl ?_
  by_cases c508 : q507 = (97 : Int32)
  · have hf := opos c508 hf
    refine g_lookup X 106 dX8_readCommand_4 (by decide) (off := 102) (by rw [c508]; decide) (by decide) ?_
    refine g_aload_n X dX8_readCommand_106 0 rfl rfl ?_
    refine g_dup X dX8_readCommand_107 rfl ?_
    refine g_get X dX8_readCommand_108 ck_X8 0 0 12 rfl rfl (Nat.le_of_ble_eq_true rfl) lkf_X8_106 rfl ?_
    refine g_iconst X (1 : Int32) dX8_readCommand_111 (by decide) ?_
    refine g_iadd X dX8_readCommand_112 ?_
    refine g_put (gs' := [MO h0 h1 h2 h3 h4 h5 h6 h7 h8 (v0.1, v0.2.1, v0.2.2.1, v0.2.2.2.1, (v0.2.2.2.2.1 + (1 : Int32)), v0.2.2.2.2.2), AI cy 120 h1 v1, AI cy 107 g0 w0]) X dX8_readCommand_113 ck_X8 ct_X8 0 0 12 rfl rfl (Nat.le_of_ble_eq_true rfl) lkf_X8_106 rfl rfl rfl (Nat.le_of_ble_eq_true rfl) rfl ?_
    refine g_aload_n X dX8_readCommand_116 0 rfl rfl ?_
    refine g_iconst X (0 : Int32) dX8_readCommand_117 (by decide) ?_
    refine g_iconst X (2 : Int32) dX8_readCommand_118 (by decide) ?_
    refine g_iconst X (1 : Int32) dX8_readCommand_119 (by decide) ?_
    refine g_bipush X (20 : Int32) dX8_readCommand_120 (by decide) ?_
    obtain ⟨q520, hq520, hf⟩ := obind hf
    refine g_callV (gs' := [MO h0 h1 h2 h3 h4 h5 h6 h7 h8 q520.2, AI cy 120 h1 v1, AI cy 107 g0 w0]) (rest := []) X dX8_readCommand_122 (c_X8_figures l D cy ad h0 h1 h2 h3 h4 h5 h6 h7 h8 (v0.1, v0.2.1, v0.2.2.1, v0.2.2.2.1, (v0.2.2.2.2.1 + (1 : Int32)), v0.2.2.2.2.2) v1 (0 : Int32) (2 : Int32) (1 : Int32) (20 : Int32) hq520) mf_X8_figures mv_X8_figures lkm_X8_134 ⟨(Nat.le_of_ble_eq_true rfl), (Nat.le_of_ble_eq_true rfl), (Nat.le_of_ble_eq_true rfl), (Nat.le_of_ble_eq_true rfl)⟩ 0 0 rfl rfl rfl rfl [0, 1, 2] _ (by decide : [0, 1, 2].Perm (List.range 3)) rfl (by decide : [0, 1, 2].Perm (List.range 3)) rfl (Nat.le_of_ble_eq_true rfl) rfl ?_
    refine g_istore_n (lv' := [(0, .ref h0), (1, .ref g0), (2, .int q520.1)]) X dX8_readCommand_125 [1, 2, 0] rfl (Nat.le_of_ble_eq_true rfl) rfl ?_
    refine g_aload_n X dX8_readCommand_126 0 rfl rfl ?_
    refine g_iload_n X dX8_readCommand_127 2 rfl rfl ?_
    refine g_iconst X (2 : Int32) dX8_readCommand_128 (by decide) ?_
    refine g_iconst X (1 : Int32) dX8_readCommand_129 (by decide) ?_
    refine g_bipush X (20 : Int32) dX8_readCommand_130 (by decide) ?_
    obtain ⟨q521, hq521, hf⟩ := obind hf
    refine g_callV (gs' := [MO h0 h1 h2 h3 h4 h5 h6 h7 h8 q521.2, AI cy 120 h1 v1, AI cy 107 g0 w0]) (rest := []) X dX8_readCommand_132 (c_X8_figures l D cy ad h0 h1 h2 h3 h4 h5 h6 h7 h8 q520.2 v1 q520.1 (2 : Int32) (1 : Int32) (20 : Int32) hq521) mf_X8_figures mv_X8_figures lkm_X8_134 ⟨(Nat.le_of_ble_eq_true rfl), (Nat.le_of_ble_eq_true rfl), (Nat.le_of_ble_eq_true rfl), (Nat.le_of_ble_eq_true rfl)⟩ 0 0 rfl rfl rfl rfl [0, 1, 2] _ (by decide : [0, 1, 2].Perm (List.range 3)) rfl (by decide : [0, 1, 2].Perm (List.range 3)) rfl (Nat.le_of_ble_eq_true rfl) rfl ?_
    refine g_istore_n (lv' := [(0, .ref h0), (1, .ref g0), (2, .int q520.1), (3, .int q521.1)]) X dX8_readCommand_135 [1, 2, 3, 0] rfl (Nat.le_of_ble_eq_true rfl) rfl ?_
    refine g_iload_n X dX8_readCommand_136 3 rfl rfl ?_
    refine g_iconst X (-1 : Int32) dX8_readCommand_137 (by decide) ?_
    refine g_icmp_eq X 166 dX8_readCommand_138 (by decide) (fun c526 => ?_) (fun c526 => ?_)
    · have hf := opos c526 hf
      refine g_iconst X (0 : Int32) dX8_readCommand_166 (by decide) ?_
      have hf := Option.some.inj hf
      subst hf
      exact g_zret (b := false) X hr dX8_readCommand_167
    · have hf := oneg c526 hf
      refine g_aload_n X dX8_readCommand_141 0 rfl rfl ?_
      refine g_aload_n X dX8_readCommand_142 1 rfl rfl ?_
      refine g_iload_n X dX8_readCommand_143 2 rfl rfl ?_
      refine g_iload_n X dX8_readCommand_144 3 rfl rfl ?_
      obtain ⟨q522, hq522, hf⟩ := obind hf
      refine g_callS (gs' := [MO h0 h1 h2 h3 h4 h5 h6 h7 h8 q521.2, AI cy 120 h1 v1, AI cy 107 g0 q522.2]) (rest := [.ref h0]) X dX8_readCommand_145 (c_X8_armsOn l D cy ad g0 w0 q520.1 q521.1 hq522) mf_X8_armsOn ms_X8_armsOn lkm_X8_138 ⟨(Nat.le_of_ble_eq_true rfl), (Nat.le_of_ble_eq_true rfl), (Nat.le_of_ble_eq_true rfl), (Nat.le_of_ble_eq_true rfl)⟩ [2, 0, 1] _ (by decide : [2, 0, 1].Perm (List.range 3)) rfl (by decide : [2, 0, 1].Perm (List.range 3)) rfl (Nat.le_of_ble_eq_true rfl) rfl ?_
      refine g_if_lt X 155 dX8_readCommand_148 (by decide) (fun c525 => ?_) (fun c525 => ?_)
      · have hf := opos c525 hf
        refine g_iconst X (0 : Int32) dX8_readCommand_155 (by decide) ?_
        refine g_sub [] (lv' := []) rfl ?_
        exact j_X8_readCommand_b156 X hr q521.2 v1 q522.2 false hf
      · have hf := oneg c525 hf
        refine g_iconst X (1 : Int32) dX8_readCommand_151 (by decide) ?_
        refine g_goto X 156 dX8_readCommand_152 (by decide) ?_
        refine g_sub [] (lv' := []) rfl ?_
        exact j_X8_readCommand_b156 X hr q521.2 v1 q522.2 true hf
  · have hf := oneg c508 hf
    by_cases c509 : q507 = (119 : Int32)
    · have hf := opos c509 hf
      refine g_lookup X 32 dX8_readCommand_4 (by decide) (off := 28) (by rw [c509]; decide) (by decide) ?_
      refine g_aload_n X dX8_readCommand_32 0 rfl rfl ?_
      refine g_dup X dX8_readCommand_33 rfl ?_
      refine g_get X dX8_readCommand_34 ck_X8 0 0 12 rfl rfl (Nat.le_of_ble_eq_true rfl) lkf_X8_106 rfl ?_
      refine g_iconst X (1 : Int32) dX8_readCommand_37 (by decide) ?_
      refine g_iadd X dX8_readCommand_38 ?_
      refine g_put (gs' := [MO h0 h1 h2 h3 h4 h5 h6 h7 h8 (v0.1, v0.2.1, v0.2.2.1, v0.2.2.2.1, (v0.2.2.2.2.1 + (1 : Int32)), v0.2.2.2.2.2), AI cy 120 h1 v1, AI cy 107 g0 w0]) X dX8_readCommand_39 ck_X8 ct_X8 0 0 12 rfl rfl (Nat.le_of_ble_eq_true rfl) lkf_X8_106 rfl rfl rfl (Nat.le_of_ble_eq_true rfl) rfl ?_
      refine g_aload_n X dX8_readCommand_42 0 rfl rfl ?_
      refine g_bipush X (118 : Int32) dX8_readCommand_43 (by decide) ?_
      obtain ⟨q510, hq510, hf⟩ := obind hf
      refine g_callV (gs' := [MO h0 h1 h2 h3 h4 h5 h6 h7 h8 q510.2, AI cy 120 h1 v1, AI cy 107 g0 w0]) (rest := []) X dX8_readCommand_45 (c_X8_letters l D cy ad h0 h1 h2 h3 h4 h5 h6 h7 h8 (v0.1, v0.2.1, v0.2.2.1, v0.2.2.2.1, (v0.2.2.2.2.1 + (1 : Int32)), v0.2.2.2.2.2) v1 (118 : Int32) hq510) mf_X8_letters mv_X8_letters lkm_X8_120 ⟨(Nat.le_of_ble_eq_true rfl), (Nat.le_of_ble_eq_true rfl), (Nat.le_of_ble_eq_true rfl), (Nat.le_of_ble_eq_true rfl)⟩ 0 0 rfl rfl rfl rfl [0, 1, 2] _ (by decide : [0, 1, 2].Perm (List.range 3)) rfl (by decide : [0, 1, 2].Perm (List.range 3)) rfl (Nat.le_of_ble_eq_true rfl) rfl ?_
      refine g_istore_n (lv' := [(0, .ref h0), (1, .ref g0), (2, .int q510.1)]) X dX8_readCommand_48 [1, 2, 0] rfl (Nat.le_of_ble_eq_true rfl) rfl ?_
      refine g_iload_n X dX8_readCommand_49 2 rfl rfl ?_
      refine g_iconst X (-1 : Int32) dX8_readCommand_50 (by decide) ?_
      refine g_icmp_ne X 58 dX8_readCommand_51 (by decide) (fun c519 => ?_) (fun c519 => ?_)
      · have hf := oneg c519 hf
        refine g_aload_n X dX8_readCommand_58 0 rfl rfl ?_
        refine g_bipush X (46 : Int32) dX8_readCommand_59 (by decide) ?_
        obtain ⟨q511, hq511, hf⟩ := obind hf
        refine g_callV (gs' := [MO h0 h1 h2 h3 h4 h5 h6 h7 h8 q511.2, AI cy 120 h1 v1, AI cy 107 g0 w0]) (rest := []) X dX8_readCommand_61 (c_X8_letters l D cy ad h0 h1 h2 h3 h4 h5 h6 h7 h8 q510.2 v1 (46 : Int32) hq511) mf_X8_letters mv_X8_letters lkm_X8_120 ⟨(Nat.le_of_ble_eq_true rfl), (Nat.le_of_ble_eq_true rfl), (Nat.le_of_ble_eq_true rfl), (Nat.le_of_ble_eq_true rfl)⟩ 0 0 rfl rfl rfl rfl [0, 1, 2] _ (by decide : [0, 1, 2].Perm (List.range 3)) rfl (by decide : [0, 1, 2].Perm (List.range 3)) rfl (Nat.le_of_ble_eq_true rfl) rfl ?_
        exact j_X8_readCommand_b64 X hr q511.2 v1 w0 q510.1 q511.1 hf
      · have hf := opos c519 hf
        refine g_iconst X (-1 : Int32) dX8_readCommand_54 (by decide) ?_
        refine g_goto X 64 dX8_readCommand_55 (by decide) ?_
        exact j_X8_readCommand_b64 X hr q510.2 v1 w0 q510.1 (-1 : Int32) hf
    · have hf := oneg c509 hf
      have ec508 := sw_ne (by decide : ((97 : Int32)).toInt = 97) c508
      have ec509 := sw_ne (by decide : ((119 : Int32)).toInt = 119) c509
      refine g_lookup X 168 dX8_readCommand_4 (by decide) (off := 164) (sw_lk2 ec508 ec509) (by decide) ?_
      refine g_iconst X (0 : Int32) dX8_readCommand_168 (by decide) ?_
      have hf := Option.some.inj hf
      subst hf
      exact g_zret (b := false) X hr dX8_readCommand_169
abbrev rmX8_readCase : Room := ({ frames := 2, cells := 0, slots := 0, locals := 53 } : Room)
def f_X8_readCase_b136 (v0 : MOv) (v1 : Fn) (w0 : Fn) (x5 : Int32) (y0 : Int32) (y1 : Int32) (y2 : Int32) : Option (Bool × MOv × Fn) :=
  (f_X8_hideOn w0 y2 ((y1 * y0) + x5)).bind (fun q547 => some (true, v0, q547.2))
set_option maxRecDepth 100000 in
set_option maxHeartbeats 4000000 in
theorem j_X8_readCase_b136 {p : Program} {l : Launch} {e : Env} {s : State} {m : MethodId} {args : Array Value} {below : List Frame} {meth : Method} {c : Code} {A : Nat → Prop} {D : va_G} {cy : Nat → ClassId} {ad : (Nat → Nat) × (Nat → Nat)} (X : gK p s m args meth c A D cy ad cX8_readCase 6 RX8) (hr : meth.sig.returnType = (some .boolean)) {h0 h1 h2 h3 h4 h5 h6 h7 h8 g0 : Nat} (v0 : MOv) (v1 : Fn) (w0 : Fn) (x5 : Int32) (y0 : Int32) (y1 : Int32) (y2 : Int32) {q : Bool × MOv × Fn} (hf : f_X8_readCase_b136 v0 v1 w0 x5 y0 y1 y2 = some q) : GW p l e rmX8_readCase s m args below meth c A D 6 0 0 (MQ below (cmQ D cy A (some (.int (b2i q.1))) ([MO h0 h1 h2 h3 h4 h5 h6 h7 h8 q.2.1, AI cy 120 h1 v1, AI cy 107 g0 q.2.2] : List va_W).flatten) args s 0 0 A) 136 [(5, .int x5)] [.int y0, .int y1, .int y2, .ref g0] [MO h0 h1 h2 h3 h4 h5 h6 h7 h8 v0, AI cy 120 h1 v1, AI cy 107 g0 w0] := by
  unfold f_X8_readCase_b136 at hf
  refine g_imul X dX8_readCase_136 ?_
  refine g_iload X dX8_readCase_137 0 rfl ?_
  refine g_iadd X dX8_readCase_139 ?_
  obtain ⟨q547, hq547, hf⟩ := obind hf
  refine g_callS (gs' := [MO h0 h1 h2 h3 h4 h5 h6 h7 h8 v0, AI cy 120 h1 v1, AI cy 107 g0 q547.2]) (rest := []) X dX8_readCase_140 (c_X8_hideOn l D cy ad g0 w0 y2 ((y1 * y0) + x5) hq547) mf_X8_hideOn ms_X8_hideOn lkm_X8_141 ⟨(Nat.le_of_ble_eq_true rfl), (Nat.le_of_ble_eq_true rfl), (Nat.le_of_ble_eq_true rfl), (Nat.le_of_ble_eq_true rfl)⟩ [2, 0, 1] _ (by decide : [2, 0, 1].Perm (List.range 3)) rfl (by decide : [2, 0, 1].Perm (List.range 3)) rfl (Nat.le_of_ble_eq_true rfl) rfl ?_
  refine g_pop X dX8_readCase_143 rfl ?_
  refine g_iconst X (1 : Int32) dX8_readCase_144 (by decide) ?_
  have hf := Option.some.inj hf
  subst hf
  exact g_zret (b := true) X hr dX8_readCase_145
def f_X8_readCase_b124 (v0 : MOv) (v1 : Fn) (w0 : Fn) (x2 : Int32) (x5 : Int32) (y0 : Int32) (y1 : Int32) : Option (Bool × MOv × Fn) :=
  f_X8_readCase_b136 v0 v1 w0 x5 ((2 : Int32) * x2) y0 y1
set_option maxRecDepth 100000 in
set_option maxHeartbeats 4000000 in
theorem j_X8_readCase_b124 {p : Program} {l : Launch} {e : Env} {s : State} {m : MethodId} {args : Array Value} {below : List Frame} {meth : Method} {c : Code} {A : Nat → Prop} {D : va_G} {cy : Nat → ClassId} {ad : (Nat → Nat) × (Nat → Nat)} (X : gK p s m args meth c A D cy ad cX8_readCase 6 RX8) (hr : meth.sig.returnType = (some .boolean)) {h0 h1 h2 h3 h4 h5 h6 h7 h8 g0 : Nat} (v0 : MOv) (v1 : Fn) (w0 : Fn) (x2 : Int32) (x5 : Int32) (y0 : Int32) (y1 : Int32) {q : Bool × MOv × Fn} (hf : f_X8_readCase_b124 v0 v1 w0 x2 x5 y0 y1 = some q) : GW p l e rmX8_readCase s m args below meth c A D 6 0 0 (MQ below (cmQ D cy A (some (.int (b2i q.1))) ([MO h0 h1 h2 h3 h4 h5 h6 h7 h8 q.2.1, AI cy 120 h1 v1, AI cy 107 g0 q.2.2] : List va_W).flatten) args s 0 0 A) 124 [(2, .int x2), (5, .int x5)] [.int y0, .int y1, .ref g0] [MO h0 h1 h2 h3 h4 h5 h6 h7 h8 v0, AI cy 120 h1 v1, AI cy 107 g0 w0] := by
  unfold f_X8_readCase_b124 at hf
  refine g_iconst X (2 : Int32) dX8_readCase_124 (by decide) ?_
  refine g_iload_n X dX8_readCase_125 0 rfl rfl ?_
  refine g_imul X dX8_readCase_126 ?_
  refine g_goto X 136 dX8_readCase_127 (by decide) ?_
  refine g_sub [1] (lv' := [(5, .int x5)]) rfl ?_
  exact j_X8_readCase_b136 X hr v0 v1 w0 x5 ((2 : Int32) * x2) y0 y1 hf
def f_X8_readCase_b87 (v0 : MOv) (v1 : Fn) (w0 : Fn) (x2 : Int32) (x3 : Int32) (x4 : Int32) (y0 : Bool) (y1 : Int32) : Option (Bool × MOv × Fn) :=
  (f_X8_figures (v0.1, v0.2.1, v0.2.2.1, v0.2.2.2.1, (y1 + (b2i y0)), v0.2.2.2.2.2) v1 x4 (1 : Int32) (0 : Int32) (2 : Int32)).bind (fun q546 => if q546.1 = (-1 : Int32) then some (false, q546.2, w0) else if x4 = (2 : Int32) then f_X8_readCase_b124 q546.2 v1 w0 x2 q546.1 (3 : Int32) x2 else if x3 < x2 then f_X8_readCase_b136 q546.2 v1 w0 q546.1 (((2 : Int32) * x3) + x4) (3 : Int32) x2 else f_X8_readCase_b124 q546.2 v1 w0 x2 q546.1 (3 : Int32) x2)
set_option maxRecDepth 100000 in
set_option maxHeartbeats 4000000 in
theorem j_X8_readCase_b87 {p : Program} {l : Launch} {e : Env} {s : State} {m : MethodId} {args : Array Value} {below : List Frame} {meth : Method} {c : Code} {A : Nat → Prop} {D : va_G} {cy : Nat → ClassId} {ad : (Nat → Nat) × (Nat → Nat)} (X : gK p s m args meth c A D cy ad cX8_readCase 6 RX8) (hr : meth.sig.returnType = (some .boolean)) {h0 h1 h2 h3 h4 h5 h6 h7 h8 g0 : Nat} (v0 : MOv) (v1 : Fn) (w0 : Fn) (x2 : Int32) (x3 : Int32) (x4 : Int32) (y0 : Bool) (y1 : Int32) {q : Bool × MOv × Fn} (hf : f_X8_readCase_b87 v0 v1 w0 x2 x3 x4 y0 y1 = some q) : GW p l e rmX8_readCase s m args below meth c A D 6 0 0 (MQ below (cmQ D cy A (some (.int (b2i q.1))) ([MO h0 h1 h2 h3 h4 h5 h6 h7 h8 q.2.1, AI cy 120 h1 v1, AI cy 107 g0 q.2.2] : List va_W).flatten) args s 0 0 A) 87 [(0, .ref h0), (1, .ref g0), (2, .int x2), (3, .int x3), (4, .int x4)] [.int (b2i y0), .int y1, .ref h0] [MO h0 h1 h2 h3 h4 h5 h6 h7 h8 v0, AI cy 120 h1 v1, AI cy 107 g0 w0] := by
  unfold f_X8_readCase_b87 at hf
  refine g_iadd X dX8_readCase_87 ?_
  refine g_put (gs' := [MO h0 h1 h2 h3 h4 h5 h6 h7 h8 (v0.1, v0.2.1, v0.2.2.1, v0.2.2.2.1, (y1 + (b2i y0)), v0.2.2.2.2.2), AI cy 120 h1 v1, AI cy 107 g0 w0]) X dX8_readCase_88 ck_X8 ct_X8 0 0 12 rfl rfl (Nat.le_of_ble_eq_true rfl) lkf_X8_106 rfl rfl rfl (Nat.le_of_ble_eq_true rfl) rfl ?_
  refine g_aload_n X dX8_readCase_91 0 rfl rfl ?_
  refine g_iload X dX8_readCase_92 4 rfl ?_
  refine g_iconst X (1 : Int32) dX8_readCase_94 (by decide) ?_
  refine g_iconst X (0 : Int32) dX8_readCase_95 (by decide) ?_
  refine g_iconst X (2 : Int32) dX8_readCase_96 (by decide) ?_
  obtain ⟨q546, hq546, hf⟩ := obind hf
  refine g_callV (gs' := [MO h0 h1 h2 h3 h4 h5 h6 h7 h8 q546.2, AI cy 120 h1 v1, AI cy 107 g0 w0]) (rest := []) X dX8_readCase_97 (c_X8_figures l D cy ad h0 h1 h2 h3 h4 h5 h6 h7 h8 (v0.1, v0.2.1, v0.2.2.1, v0.2.2.2.1, (y1 + (b2i y0)), v0.2.2.2.2.2) v1 x4 (1 : Int32) (0 : Int32) (2 : Int32) hq546) mf_X8_figures mv_X8_figures lkm_X8_134 ⟨(Nat.le_of_ble_eq_true rfl), (Nat.le_of_ble_eq_true rfl), (Nat.le_of_ble_eq_true rfl), (Nat.le_of_ble_eq_true rfl)⟩ 0 0 rfl rfl rfl rfl [0, 1, 2] _ (by decide : [0, 1, 2].Perm (List.range 3)) rfl (by decide : [0, 1, 2].Perm (List.range 3)) rfl (Nat.le_of_ble_eq_true rfl) rfl ?_
  refine g_istore (lv' := [(0, .ref h0), (1, .ref g0), (2, .int x2), (3, .int x3), (4, .int x4), (5, .int q546.1)]) X dX8_readCase_100 [1, 2, 3, 4, 5, 0] (Nat.le_of_ble_eq_true rfl) rfl ?_
  refine g_iload X dX8_readCase_102 5 rfl ?_
  refine g_iconst X (-1 : Int32) dX8_readCase_104 (by decide) ?_
  refine g_icmp_ne X 110 dX8_readCase_105 (by decide) (fun c550 => ?_) (fun c550 => ?_)
  · have hf := oneg c550 hf
    refine g_aload_n X dX8_readCase_110 1 rfl rfl ?_
    refine g_iload_n X dX8_readCase_111 2 rfl rfl ?_
    refine g_iconst X (3 : Int32) dX8_readCase_112 (by decide) ?_
    refine g_iload X dX8_readCase_113 4 rfl ?_
    refine g_iconst X (2 : Int32) dX8_readCase_115 (by decide) ?_
    refine g_icmp_eq X 124 dX8_readCase_116 (by decide) (fun c549 => ?_) (fun c549 => ?_)
    · have hf := opos c549 hf
      refine g_sub [2, 5] (lv' := [(2, .int x2), (5, .int q546.1)]) rfl ?_
      exact j_X8_readCase_b124 X hr q546.2 v1 w0 x2 q546.1 (3 : Int32) x2 hf
    · have hf := oneg c549 hf
      refine g_iload_n X dX8_readCase_119 3 rfl rfl ?_
      refine g_iload_n X dX8_readCase_120 2 rfl rfl ?_
      refine g_icmp_lt X 130 dX8_readCase_121 (by decide) (fun c548 => ?_) (fun c548 => ?_)
      · have hf := opos c548 hf
        refine g_iconst X (2 : Int32) dX8_readCase_130 (by decide) ?_
        refine g_iload_n X dX8_readCase_131 3 rfl rfl ?_
        refine g_imul X dX8_readCase_132 ?_
        refine g_iload X dX8_readCase_133 4 rfl ?_
        refine g_iadd X dX8_readCase_135 ?_
        refine g_sub [5] (lv' := [(5, .int q546.1)]) rfl ?_
        exact j_X8_readCase_b136 X hr q546.2 v1 w0 q546.1 (((2 : Int32) * x3) + x4) (3 : Int32) x2 hf
      · have hf := oneg c548 hf
        refine g_sub [2, 5] (lv' := [(2, .int x2), (5, .int q546.1)]) rfl ?_
        exact j_X8_readCase_b124 X hr q546.2 v1 w0 x2 q546.1 (3 : Int32) x2 hf
  · have hf := opos c550 hf
    refine g_iconst X (0 : Int32) dX8_readCase_108 (by decide) ?_
    have hf := Option.some.inj hf
    subst hf
    exact g_zret (b := false) X hr dX8_readCase_109
def f_X8_readCase_b69 (v0 : MOv) (v1 : Fn) (w0 : Fn) (x2 : Int32) (x3 : Int32) (y0 : Int32) : Option (Bool × MOv × Fn) :=
  if y0 = (-1 : Int32) then f_X8_readCase_b87 v0 v1 w0 x2 x3 y0 false v0.2.2.2.2.1 else f_X8_readCase_b87 v0 v1 w0 x2 x3 y0 true v0.2.2.2.2.1
set_option maxRecDepth 100000 in
set_option maxHeartbeats 4000000 in
theorem j_X8_readCase_b69 {p : Program} {l : Launch} {e : Env} {s : State} {m : MethodId} {args : Array Value} {below : List Frame} {meth : Method} {c : Code} {A : Nat → Prop} {D : va_G} {cy : Nat → ClassId} {ad : (Nat → Nat) × (Nat → Nat)} (X : gK p s m args meth c A D cy ad cX8_readCase 6 RX8) (hr : meth.sig.returnType = (some .boolean)) {h0 h1 h2 h3 h4 h5 h6 h7 h8 g0 : Nat} (v0 : MOv) (v1 : Fn) (w0 : Fn) (x2 : Int32) (x3 : Int32) (y0 : Int32) {q : Bool × MOv × Fn} (hf : f_X8_readCase_b69 v0 v1 w0 x2 x3 y0 = some q) : GW p l e rmX8_readCase s m args below meth c A D 6 0 0 (MQ below (cmQ D cy A (some (.int (b2i q.1))) ([MO h0 h1 h2 h3 h4 h5 h6 h7 h8 q.2.1, AI cy 120 h1 v1, AI cy 107 g0 q.2.2] : List va_W).flatten) args s 0 0 A) 69 [(0, .ref h0), (1, .ref g0), (2, .int x2), (3, .int x3)] [.int y0] [MO h0 h1 h2 h3 h4 h5 h6 h7 h8 v0, AI cy 120 h1 v1, AI cy 107 g0 w0] := by
  unfold f_X8_readCase_b69 at hf
  refine g_istore (lv' := [(0, .ref h0), (1, .ref g0), (2, .int x2), (3, .int x3), (4, .int y0)]) X dX8_readCase_69 [1, 2, 3, 4, 0] (Nat.le_of_ble_eq_true rfl) rfl ?_
  refine g_aload_n X dX8_readCase_71 0 rfl rfl ?_
  refine g_dup X dX8_readCase_72 rfl ?_
  refine g_get X dX8_readCase_73 ck_X8 0 0 12 rfl rfl (Nat.le_of_ble_eq_true rfl) lkf_X8_106 rfl ?_
  refine g_iload X dX8_readCase_76 4 rfl ?_
  refine g_iconst X (-1 : Int32) dX8_readCase_78 (by decide) ?_
  refine g_icmp_ne X 86 dX8_readCase_79 (by decide) (fun c551 => ?_) (fun c551 => ?_)
  · have hf := oneg c551 hf
    refine g_iconst X (1 : Int32) dX8_readCase_86 (by decide) ?_
    exact j_X8_readCase_b87 X hr v0 v1 w0 x2 x3 y0 true v0.2.2.2.2.1 hf
  · have hf := opos c551 hf
    refine g_iconst X (0 : Int32) dX8_readCase_82 (by decide) ?_
    refine g_goto X 87 dX8_readCase_83 (by decide) ?_
    exact j_X8_readCase_b87 X hr v0 v1 w0 x2 x3 y0 false v0.2.2.2.2.1 hf
def f_X8_readCase (v0 : MOv) (v1 : Fn) (w0 : Fn) : Option (Bool × MOv × Fn) :=
  (f_X8_figures v0 v1 (0 : Int32) (2 : Int32) (3 : Int32) (12 : Int32)).bind (fun q541 => (f_X8_figures q541.2 v1 q541.1 (2 : Int32) (0 : Int32) (11 : Int32)).bind (fun q542 => if q542.1 = (-1 : Int32) then f_X8_readCase_b69 q542.2 v1 w0 q541.1 q542.1 (-1 : Int32) else (f_X8_sign q542.2 v1).bind (fun q543 => if q543 = (108 : Int32) then f_X8_readCase_b69 q542.2 v1 w0 q541.1 q542.1 (0 : Int32) else (f_X8_sign q542.2 v1).bind (fun q544 => if q544 = (104 : Int32) then f_X8_readCase_b69 q542.2 v1 w0 q541.1 q542.1 (1 : Int32) else (f_X8_sign q542.2 v1).bind (fun q545 => if q545 = (116 : Int32) then f_X8_readCase_b69 q542.2 v1 w0 q541.1 q542.1 (2 : Int32) else f_X8_readCase_b69 q542.2 v1 w0 q541.1 q542.1 (-1 : Int32))))))
set_option maxRecDepth 100000 in
set_option maxHeartbeats 4000000 in
theorem c_X8_readCase (l : Launch) (D : va_G) (cy : Nat → ClassId) (ad : (Nat → Nat) × (Nat → Nat)) (h0 h1 h2 h3 h4 h5 h6 h7 h8 g0 : Nat) (v0 : MOv) (v1 : Fn) (w0 : Fn) {q : Bool × MOv × Fn} (hf : f_X8_readCase v0 v1 w0 = some q) : CM l yX8_readCase cX8_readCase 6 (some .boolean) rmX8_readCase D cy ad [.ref h0, .ref g0] [MO h0 h1 h2 h3 h4 h5 h6 h7 h8 v0, AI cy 120 h1 v1, AI cy 107 g0 w0] (some (.int (b2i q.1))) [MO h0 h1 h2 h3 h4 h5 h6 h7 h8 q.2.1, AI cy 120 h1 v1, AI cy 107 g0 q.2.2] := by
  refine cm_of (lv0 := [(0, .ref h0), (1, .ref g0)]) (by decide) (Nat.le_of_ble_eq_true rfl) rfl ?_
  intro p e s m args below meth c A X hr hn
  have X : gK p s m args meth c A D cy ad cX8_readCase 6 RX8 := X
  unfold f_X8_readCase at hf
  refine g_aload_n X dX8_readCase_0 0 rfl rfl ?_
  refine g_iconst X (0 : Int32) dX8_readCase_1 (by decide) ?_
  refine g_iconst X (2 : Int32) dX8_readCase_2 (by decide) ?_
  refine g_iconst X (3 : Int32) dX8_readCase_3 (by decide) ?_
  refine g_bipush X (12 : Int32) dX8_readCase_4 (by decide) ?_
  obtain ⟨q541, hq541, hf⟩ := obind hf
  refine g_callV (gs' := [MO h0 h1 h2 h3 h4 h5 h6 h7 h8 q541.2, AI cy 120 h1 v1, AI cy 107 g0 w0]) (rest := []) X dX8_readCase_6 (c_X8_figures l D cy ad h0 h1 h2 h3 h4 h5 h6 h7 h8 v0 v1 (0 : Int32) (2 : Int32) (3 : Int32) (12 : Int32) hq541) mf_X8_figures mv_X8_figures lkm_X8_134 ⟨(Nat.le_of_ble_eq_true rfl), (Nat.le_of_ble_eq_true rfl), (Nat.le_of_ble_eq_true rfl), (Nat.le_of_ble_eq_true rfl)⟩ 0 0 rfl rfl rfl rfl [0, 1, 2] _ (by decide : [0, 1, 2].Perm (List.range 3)) rfl (by decide : [0, 1, 2].Perm (List.range 3)) rfl (Nat.le_of_ble_eq_true rfl) rfl ?_
  refine g_istore_n (lv' := [(0, .ref h0), (1, .ref g0), (2, .int q541.1)]) X dX8_readCase_9 [1, 2, 0] rfl (Nat.le_of_ble_eq_true rfl) rfl ?_
  refine g_aload_n X dX8_readCase_10 0 rfl rfl ?_
  refine g_iload_n X dX8_readCase_11 2 rfl rfl ?_
  refine g_iconst X (2 : Int32) dX8_readCase_12 (by decide) ?_
  refine g_iconst X (0 : Int32) dX8_readCase_13 (by decide) ?_
  refine g_bipush X (11 : Int32) dX8_readCase_14 (by decide) ?_
  obtain ⟨q542, hq542, hf⟩ := obind hf
  refine g_callV (gs' := [MO h0 h1 h2 h3 h4 h5 h6 h7 h8 q542.2, AI cy 120 h1 v1, AI cy 107 g0 w0]) (rest := []) X dX8_readCase_16 (c_X8_figures l D cy ad h0 h1 h2 h3 h4 h5 h6 h7 h8 q541.2 v1 q541.1 (2 : Int32) (0 : Int32) (11 : Int32) hq542) mf_X8_figures mv_X8_figures lkm_X8_134 ⟨(Nat.le_of_ble_eq_true rfl), (Nat.le_of_ble_eq_true rfl), (Nat.le_of_ble_eq_true rfl), (Nat.le_of_ble_eq_true rfl)⟩ 0 0 rfl rfl rfl rfl [0, 1, 2] _ (by decide : [0, 1, 2].Perm (List.range 3)) rfl (by decide : [0, 1, 2].Perm (List.range 3)) rfl (Nat.le_of_ble_eq_true rfl) rfl ?_
  refine g_istore_n (lv' := [(0, .ref h0), (1, .ref g0), (2, .int q541.1), (3, .int q542.1)]) X dX8_readCase_19 [1, 2, 3, 0] rfl (Nat.le_of_ble_eq_true rfl) rfl ?_
  refine g_iload_n X dX8_readCase_20 3 rfl rfl ?_
  refine g_iconst X (-1 : Int32) dX8_readCase_21 (by decide) ?_
  refine g_icmp_ne X 29 dX8_readCase_22 (by decide) (fun c555 => ?_) (fun c555 => ?_)
  · have hf := oneg c555 hf
    refine g_aload_n X dX8_readCase_29 0 rfl rfl ?_
    obtain ⟨q543, hq543, hf⟩ := obind hf
    refine g_callV (gs' := [MO h0 h1 h2 h3 h4 h5 h6 h7 h8 q542.2, AI cy 120 h1 v1, AI cy 107 g0 w0]) (rest := []) X dX8_readCase_30 (c_X8_sign l D cy ad h0 h1 h2 h3 h4 h5 h6 h7 h8 q542.2 v1 hq543) mf_X8_sign mv_X8_sign lkm_X8_109 ⟨(Nat.le_of_ble_eq_true rfl), (Nat.le_of_ble_eq_true rfl), (Nat.le_of_ble_eq_true rfl), (Nat.le_of_ble_eq_true rfl)⟩ 0 0 rfl rfl rfl rfl [0, 1, 2] _ (by decide : [0, 1, 2].Perm (List.range 3)) rfl (by decide : [0, 1, 2].Perm (List.range 3)) rfl (Nat.le_of_ble_eq_true rfl) rfl ?_
    refine g_bipush X (108 : Int32) dX8_readCase_33 (by decide) ?_
    refine g_icmp_ne X 42 dX8_readCase_35 (by decide) (fun c554 => ?_) (fun c554 => ?_)
    · have hf := oneg c554 hf
      refine g_aload_n X dX8_readCase_42 0 rfl rfl ?_
      obtain ⟨q544, hq544, hf⟩ := obind hf
      refine g_callV (gs' := [MO h0 h1 h2 h3 h4 h5 h6 h7 h8 q542.2, AI cy 120 h1 v1, AI cy 107 g0 w0]) (rest := []) X dX8_readCase_43 (c_X8_sign l D cy ad h0 h1 h2 h3 h4 h5 h6 h7 h8 q542.2 v1 hq544) mf_X8_sign mv_X8_sign lkm_X8_109 ⟨(Nat.le_of_ble_eq_true rfl), (Nat.le_of_ble_eq_true rfl), (Nat.le_of_ble_eq_true rfl), (Nat.le_of_ble_eq_true rfl)⟩ 0 0 rfl rfl rfl rfl [0, 1, 2] _ (by decide : [0, 1, 2].Perm (List.range 3)) rfl (by decide : [0, 1, 2].Perm (List.range 3)) rfl (Nat.le_of_ble_eq_true rfl) rfl ?_
      refine g_bipush X (104 : Int32) dX8_readCase_46 (by decide) ?_
      refine g_icmp_ne X 55 dX8_readCase_48 (by decide) (fun c553 => ?_) (fun c553 => ?_)
      · have hf := oneg c553 hf
        refine g_aload_n X dX8_readCase_55 0 rfl rfl ?_
        obtain ⟨q545, hq545, hf⟩ := obind hf
        refine g_callV (gs' := [MO h0 h1 h2 h3 h4 h5 h6 h7 h8 q542.2, AI cy 120 h1 v1, AI cy 107 g0 w0]) (rest := []) X dX8_readCase_56 (c_X8_sign l D cy ad h0 h1 h2 h3 h4 h5 h6 h7 h8 q542.2 v1 hq545) mf_X8_sign mv_X8_sign lkm_X8_109 ⟨(Nat.le_of_ble_eq_true rfl), (Nat.le_of_ble_eq_true rfl), (Nat.le_of_ble_eq_true rfl), (Nat.le_of_ble_eq_true rfl)⟩ 0 0 rfl rfl rfl rfl [0, 1, 2] _ (by decide : [0, 1, 2].Perm (List.range 3)) rfl (by decide : [0, 1, 2].Perm (List.range 3)) rfl (Nat.le_of_ble_eq_true rfl) rfl ?_
        refine g_bipush X (116 : Int32) dX8_readCase_59 (by decide) ?_
        refine g_icmp_ne X 68 dX8_readCase_61 (by decide) (fun c552 => ?_) (fun c552 => ?_)
        · have hf := oneg c552 hf
          refine g_iconst X (-1 : Int32) dX8_readCase_68 (by decide) ?_
          exact j_X8_readCase_b69 X hr q542.2 v1 w0 q541.1 q542.1 (-1 : Int32) hf
        · have hf := opos c552 hf
          refine g_iconst X (2 : Int32) dX8_readCase_64 (by decide) ?_
          refine g_goto X 69 dX8_readCase_65 (by decide) ?_
          exact j_X8_readCase_b69 X hr q542.2 v1 w0 q541.1 q542.1 (2 : Int32) hf
      · have hf := opos c553 hf
        refine g_iconst X (1 : Int32) dX8_readCase_51 (by decide) ?_
        refine g_goto X 69 dX8_readCase_52 (by decide) ?_
        exact j_X8_readCase_b69 X hr q542.2 v1 w0 q541.1 q542.1 (1 : Int32) hf
    · have hf := opos c554 hf
      refine g_iconst X (0 : Int32) dX8_readCase_38 (by decide) ?_
      refine g_goto X 69 dX8_readCase_39 (by decide) ?_
      exact j_X8_readCase_b69 X hr q542.2 v1 w0 q541.1 q542.1 (0 : Int32) hf
  · have hf := opos c555 hf
    refine g_iconst X (-1 : Int32) dX8_readCase_25 (by decide) ?_
    refine g_goto X 69 dX8_readCase_26 (by decide) ?_
    exact j_X8_readCase_b69 X hr q542.2 v1 w0 q541.1 q542.1 (-1 : Int32) hf
abbrev rmX8_readText : Room := ({ frames := 5, cells := 0, slots := 0, locals := 116 } : Room)
def f_X8_readText_B43 (v1 : Fn) (z : MOv × Fn) : Option ((MOv × Fn) ⊕ ((MOv × Fn) ⊕ (MOv × Fn))) :=
  if z.1.2.1 ≤ z.1.2.2.2.2.1 then some (.inr (.inr (z.1, z.2))) else (f_X8_readCommand z.1 v1 z.2).bind (fun q567 => if (b2i q567.1) = 0 then some (.inr (.inl (q567.2.1, q567.2.2))) else some (.inl (q567.2.1, q567.2.2)))
set_option maxRecDepth 100000 in
set_option maxHeartbeats 4000000 in
theorem b_X8_readText_B43 {p : Program} {l : Launch} {e : Env} {s : State} {m : MethodId} {args : Array Value} {below : List Frame} {meth : Method} {c : Code} {A : Nat → Prop} {D : va_G} {cy : Nat → ClassId} {ad : (Nat → Nat) × (Nat → Nat)} {Q : State → Prop} (X : gK p s m args meth c A D cy ad cX8_readText 2 RX8) (hr : meth.sig.returnType = (some .int)) {h0 h1 h2 h3 h4 h5 h6 h7 h8 g0 : Nat} (v1 : Fn) (z : MOv × Fn) {q : (MOv × Fn) ⊕ ((MOv × Fn) ⊕ (MOv × Fn))} (hf : f_X8_readText_B43 v1 z = some q) (K1 : ∀ s' : MOv × Fn, q = .inl s' → GW p l e rmX8_readText s m args below meth c A D 2 0 0 Q 43 [(0, .ref h0), (1, .ref g0)] [] [MO h0 h1 h2 h3 h4 h5 h6 h7 h8 (s'.1.1, s'.1.2.1, s'.1.2.2.1, s'.1.2.2.2.1, s'.1.2.2.2.2.1, s'.1.2.2.2.2.2), AI cy 120 h1 v1, AI cy 107 g0 s'.2]) (K2 : ∀ e' : MOv × Fn, q = .inr (.inl e') → GW p l e rmX8_readText s m args below meth c A D 2 0 0 Q 62 [(0, .ref h0)] [] [MO h0 h1 h2 h3 h4 h5 h6 h7 h8 (e'.1.1, e'.1.2.1, e'.1.2.2.1, e'.1.2.2.2.1, e'.1.2.2.2.2.1, e'.1.2.2.2.2.2), AI cy 120 h1 v1, AI cy 107 g0 e'.2]) (K3 : ∀ e' : MOv × Fn, q = .inr (.inr e') → GW p l e rmX8_readText s m args below meth c A D 2 0 0 Q 67 [] [] [MO h0 h1 h2 h3 h4 h5 h6 h7 h8 (e'.1.1, e'.1.2.1, e'.1.2.2.1, e'.1.2.2.2.1, e'.1.2.2.2.2.1, e'.1.2.2.2.2.2), AI cy 120 h1 v1, AI cy 107 g0 e'.2]) : GW p l e rmX8_readText s m args below meth c A D 2 0 0 Q 43 [(0, .ref h0), (1, .ref g0)] [] [MO h0 h1 h2 h3 h4 h5 h6 h7 h8 z.1, AI cy 120 h1 v1, AI cy 107 g0 z.2] := by
  unfold f_X8_readText_B43 at hf
  refine g_aload_n X dX8_readText_43 0 rfl rfl ?_
  refine g_get X dX8_readText_44 ck_X8 0 0 12 rfl rfl (Nat.le_of_ble_eq_true rfl) lkf_X8_106 rfl ?_
  refine g_aload_n X dX8_readText_47 0 rfl rfl ?_
  refine g_get X dX8_readText_48 ck_X8 0 0 2 rfl rfl (Nat.le_of_ble_eq_true rfl) lkf_X8_99 rfl ?_
  refine g_icmp_ge X 67 dX8_readText_51 (by decide) (fun c569 => ?_) (fun c569 => ?_)
  · have hf := opos c569 hf
    refine g_sub [] (lv' := []) rfl ?_
    exact K3 (z.1, z.2) (Option.some.inj hf).symm
  · have hf := oneg c569 hf
    refine g_aload_n X dX8_readText_54 0 rfl rfl ?_
    refine g_aload_n X dX8_readText_55 1 rfl rfl ?_
    obtain ⟨q567, hq567, hf⟩ := obind hf
    refine g_callV (gs' := [MO h0 h1 h2 h3 h4 h5 h6 h7 h8 q567.2.1, AI cy 120 h1 v1, AI cy 107 g0 q567.2.2]) (rest := []) X dX8_readText_56 (c_X8_readCommand l D cy ad h0 h1 h2 h3 h4 h5 h6 h7 h8 g0 z.1 v1 z.2 hq567) mf_X8_readCommand mv_X8_readCommand lkm_X8_148 ⟨(Nat.le_of_ble_eq_true rfl), (Nat.le_of_ble_eq_true rfl), (Nat.le_of_ble_eq_true rfl), (Nat.le_of_ble_eq_true rfl)⟩ 0 0 rfl rfl rfl rfl [0, 1, 2] _ (by decide : [0, 1, 2].Perm (List.range 3)) rfl (by decide : [0, 1, 2].Perm (List.range 3)) rfl (Nat.le_of_ble_eq_true rfl) rfl ?_
    refine g_if_ne X 43 dX8_readText_59 (by decide) (fun c568 => ?_) (fun c568 => ?_)
    · have hf := oneg c568 hf
      exact K1 (q567.2.1, q567.2.2) (Option.some.inj hf).symm
    · have hf := opos c568 hf
      refine g_sub [0] (lv' := [(0, .ref h0)]) rfl ?_
      exact K2 (q567.2.1, q567.2.2) (Option.some.inj hf).symm
set_option maxRecDepth 100000 in
set_option maxHeartbeats 4000000 in
theorem w_X8_readText_B43 {p : Program} {l : Launch} {e : Env} {s : State} {m : MethodId} {args : Array Value} {below : List Frame} {meth : Method} {c : Code} {A : Nat → Prop} {D : va_G} {cy : Nat → ClassId} {ad : (Nat → Nat) × (Nat → Nat)} {Q : State → Prop} (X : gK p s m args meth c A D cy ad cX8_readText 2 RX8) (hr : meth.sig.returnType = (some .int)) {h0 h1 h2 h3 h4 h5 h6 h7 h8 g0 : Nat} (v1 : Fn) {n : Nat} {z : MOv × Fn} {q : (MOv × Fn) ⊕ (MOv × Fn)} (hf : itl (f_X8_readText_B43 v1) n z = some q) (K2 : ∀ e' : MOv × Fn, q = .inl e' → GW p l e rmX8_readText s m args below meth c A D 2 0 0 Q 62 [(0, .ref h0)] [] [MO h0 h1 h2 h3 h4 h5 h6 h7 h8 (e'.1.1, e'.1.2.1, e'.1.2.2.1, e'.1.2.2.2.1, e'.1.2.2.2.2.1, e'.1.2.2.2.2.2), AI cy 120 h1 v1, AI cy 107 g0 e'.2]) (K3 : ∀ e' : MOv × Fn, q = .inr e' → GW p l e rmX8_readText s m args below meth c A D 2 0 0 Q 67 [] [] [MO h0 h1 h2 h3 h4 h5 h6 h7 h8 (e'.1.1, e'.1.2.1, e'.1.2.2.1, e'.1.2.2.2.1, e'.1.2.2.2.2.1, e'.1.2.2.2.2.2), AI cy 120 h1 v1, AI cy 107 g0 e'.2]) : GW p l e rmX8_readText s m args below meth c A D 2 0 0 Q 43 [(0, .ref h0), (1, .ref g0)] [] [MO h0 h1 h2 h3 h4 h5 h6 h7 h8 z.1, AI cy 120 h1 v1, AI cy 107 g0 z.2] :=
  itl_ind (f := f_X8_readText_B43 v1) (I := fun z => GW p l e rmX8_readText s m args below meth c A D 2 0 0 Q 43 [(0, .ref h0), (1, .ref g0)] [] [MO h0 h1 h2 h3 h4 h5 h6 h7 h8 z.1, AI cy 120 h1 v1, AI cy 107 g0 z.2]) (J := (fun q => (∀ e' : MOv × Fn, q = .inl e' → GW p l e rmX8_readText s m args below meth c A D 2 0 0 Q 62 [(0, .ref h0)] [] [MO h0 h1 h2 h3 h4 h5 h6 h7 h8 (e'.1.1, e'.1.2.1, e'.1.2.2.1, e'.1.2.2.2.1, e'.1.2.2.2.2.1, e'.1.2.2.2.2.2), AI cy 120 h1 v1, AI cy 107 g0 e'.2]) ∧ (∀ e' : MOv × Fn, q = .inr e' → GW p l e rmX8_readText s m args below meth c A D 2 0 0 Q 67 [] [] [MO h0 h1 h2 h3 h4 h5 h6 h7 h8 (e'.1.1, e'.1.2.1, e'.1.2.2.1, e'.1.2.2.2.1, e'.1.2.2.2.2.1, e'.1.2.2.2.2.2), AI cy 120 h1 v1, AI cy 107 g0 e'.2]))) (fun z x h k1 k2 => b_X8_readText_B43 X hr v1 z h (fun s' hs => k1 s' hs) (fun e' he => (k2 _ he).1 e' rfl) (fun e' he => (k2 _ he).2 e' rfl)) n z q hf ⟨K2, K3⟩
def f_X8_readText (v0 : MOv) (v1 : Fn) (w0 : Fn) : Option (Int32 × MOv × Fn) :=
  (f_X8_clear w0).bind (fun q564 => (f_X8_sign (v0.1, v0.2.1, v0.2.2.1, v0.2.2.2.1, (0 : Int32), (0 : Int32)) v1).bind (fun q565 => if q565 = (80 : Int32) then (f_X8_readCase (v0.1, v0.2.1, v0.2.2.1, v0.2.2.2.1, (1 : Int32), (0 : Int32)) v1 q564).bind (fun q566 => if (b2i q566.1) = 0 then some (q566.2.1.2.2.2.2.1, q566.2.1, q566.2.2) else (itl (f_X8_readText_B43 v1) FU (q566.2.1, q566.2.2)).bind (Sum.elim (fun q570e => some (q570e.1.2.2.2.2.1, q570e.1, q570e.2)) (fun q570e => some ((-1 : Int32), q570e.1, q570e.2)))) else some ((0 : Int32), (v0.1, v0.2.1, v0.2.2.1, v0.2.2.2.1, (0 : Int32), (0 : Int32)), q564)))
set_option maxRecDepth 100000 in
set_option maxHeartbeats 4000000 in
theorem c_X8_readText (l : Launch) (D : va_G) (cy : Nat → ClassId) (ad : (Nat → Nat) × (Nat → Nat)) (h0 h1 h2 h3 h4 h5 h6 h7 h8 g0 : Nat) (v0 : MOv) (v1 : Fn) (w0 : Fn) {q : Int32 × MOv × Fn} (hf : f_X8_readText v0 v1 w0 = some q) : CM l yX8_readText cX8_readText 2 (some .int) rmX8_readText D cy ad [.ref h0, .ref g0] [MO h0 h1 h2 h3 h4 h5 h6 h7 h8 v0, AI cy 120 h1 v1, AI cy 107 g0 w0] (some (.int q.1)) [MO h0 h1 h2 h3 h4 h5 h6 h7 h8 q.2.1, AI cy 120 h1 v1, AI cy 107 g0 q.2.2] := by
  refine cm_of (lv0 := [(0, .ref h0), (1, .ref g0)]) (by decide) (Nat.le_of_ble_eq_true rfl) rfl ?_
  intro p e s m args below meth c A X hr hn
  have X : gK p s m args meth c A D cy ad cX8_readText 2 RX8 := X
  unfold f_X8_readText at hf
  refine g_aload_n X dX8_readText_0 1 rfl rfl ?_
  obtain ⟨q564, hq564, hf⟩ := obind hf
  refine g_callS (gs' := [MO h0 h1 h2 h3 h4 h5 h6 h7 h8 v0, AI cy 120 h1 v1, AI cy 107 g0 q564]) (rest := []) X dX8_readText_1 (c_X8_clear l D cy ad g0 w0 hq564) mf_X8_clear ms_X8_clear lkm_X8_35 ⟨(Nat.le_of_ble_eq_true rfl), (Nat.le_of_ble_eq_true rfl), (Nat.le_of_ble_eq_true rfl), (Nat.le_of_ble_eq_true rfl)⟩ [2, 0, 1] _ (by decide : [2, 0, 1].Perm (List.range 3)) rfl (by decide : [2, 0, 1].Perm (List.range 3)) rfl (Nat.le_of_ble_eq_true rfl) rfl ?_
  refine g_aload_n X dX8_readText_4 0 rfl rfl ?_
  refine g_iconst X (0 : Int32) dX8_readText_5 (by decide) ?_
  refine g_put (gs' := [MO h0 h1 h2 h3 h4 h5 h6 h7 h8 (v0.1, v0.2.1, v0.2.2.1, v0.2.2.2.1, v0.2.2.2.2.1, (0 : Int32)), AI cy 120 h1 v1, AI cy 107 g0 q564]) X dX8_readText_6 ck_X8 ct_X8 0 0 13 rfl rfl (Nat.le_of_ble_eq_true rfl) lkf_X8_117 rfl rfl rfl (Nat.le_of_ble_eq_true rfl) rfl ?_
  refine g_aload_n X dX8_readText_9 0 rfl rfl ?_
  refine g_iconst X (0 : Int32) dX8_readText_10 (by decide) ?_
  refine g_put (gs' := [MO h0 h1 h2 h3 h4 h5 h6 h7 h8 (v0.1, v0.2.1, v0.2.2.1, v0.2.2.2.1, (0 : Int32), (0 : Int32)), AI cy 120 h1 v1, AI cy 107 g0 q564]) X dX8_readText_11 ck_X8 ct_X8 0 0 12 rfl rfl (Nat.le_of_ble_eq_true rfl) lkf_X8_106 rfl rfl rfl (Nat.le_of_ble_eq_true rfl) rfl ?_
  refine g_aload_n X dX8_readText_14 0 rfl rfl ?_
  obtain ⟨q565, hq565, hf⟩ := obind hf
  refine g_callV (gs' := [MO h0 h1 h2 h3 h4 h5 h6 h7 h8 (v0.1, v0.2.1, v0.2.2.1, v0.2.2.2.1, (0 : Int32), (0 : Int32)), AI cy 120 h1 v1, AI cy 107 g0 q564]) (rest := []) X dX8_readText_15 (c_X8_sign l D cy ad h0 h1 h2 h3 h4 h5 h6 h7 h8 (v0.1, v0.2.1, v0.2.2.1, v0.2.2.2.1, (0 : Int32), (0 : Int32)) v1 hq565) mf_X8_sign mv_X8_sign lkm_X8_109 ⟨(Nat.le_of_ble_eq_true rfl), (Nat.le_of_ble_eq_true rfl), (Nat.le_of_ble_eq_true rfl), (Nat.le_of_ble_eq_true rfl)⟩ 0 0 rfl rfl rfl rfl [0, 1, 2] _ (by decide : [0, 1, 2].Perm (List.range 3)) rfl (by decide : [0, 1, 2].Perm (List.range 3)) rfl (Nat.le_of_ble_eq_true rfl) rfl ?_
  refine g_bipush X (80 : Int32) dX8_readText_18 (by decide) ?_
  refine g_icmp_eq X 25 dX8_readText_20 (by decide) (fun c572 => ?_) (fun c572 => ?_)
  · have hf := opos c572 hf
    refine g_aload_n X dX8_readText_25 0 rfl rfl ?_
    refine g_iconst X (1 : Int32) dX8_readText_26 (by decide) ?_
    refine g_put (gs' := [MO h0 h1 h2 h3 h4 h5 h6 h7 h8 (v0.1, v0.2.1, v0.2.2.1, v0.2.2.2.1, (1 : Int32), (0 : Int32)), AI cy 120 h1 v1, AI cy 107 g0 q564]) X dX8_readText_27 ck_X8 ct_X8 0 0 12 rfl rfl (Nat.le_of_ble_eq_true rfl) lkf_X8_106 rfl rfl rfl (Nat.le_of_ble_eq_true rfl) rfl ?_
    refine g_aload_n X dX8_readText_30 0 rfl rfl ?_
    refine g_aload_n X dX8_readText_31 1 rfl rfl ?_
    obtain ⟨q566, hq566, hf⟩ := obind hf
    refine g_callV (gs' := [MO h0 h1 h2 h3 h4 h5 h6 h7 h8 q566.2.1, AI cy 120 h1 v1, AI cy 107 g0 q566.2.2]) (rest := []) X dX8_readText_32 (c_X8_readCase l D cy ad h0 h1 h2 h3 h4 h5 h6 h7 h8 g0 (v0.1, v0.2.1, v0.2.2.1, v0.2.2.2.1, (1 : Int32), (0 : Int32)) v1 q564 hq566) mf_X8_readCase mv_X8_readCase lkm_X8_144 ⟨(Nat.le_of_ble_eq_true rfl), (Nat.le_of_ble_eq_true rfl), (Nat.le_of_ble_eq_true rfl), (Nat.le_of_ble_eq_true rfl)⟩ 0 0 rfl rfl rfl rfl [0, 1, 2] _ (by decide : [0, 1, 2].Perm (List.range 3)) rfl (by decide : [0, 1, 2].Perm (List.range 3)) rfl (Nat.le_of_ble_eq_true rfl) rfl ?_
    refine g_if_ne X 43 dX8_readText_35 (by decide) (fun c571 => ?_) (fun c571 => ?_)
    · have hf := oneg c571 hf
      obtain ⟨q570, hq570, hf⟩ := obind hf
      refine w_X8_readText_B43 X hr v1 hq570 (fun q570e hq570e => ?_) (fun q570e hq570e => ?_)
      · subst hq570e
        have hf := sinl hf
        refine g_aload_n X dX8_readText_62 0 rfl rfl ?_
        refine g_get X dX8_readText_63 ck_X8 0 0 12 rfl rfl (Nat.le_of_ble_eq_true rfl) lkf_X8_106 rfl ?_
        have hf := Option.some.inj hf
        subst hf
        exact g_iret X hr dX8_readText_66
      · subst hq570e
        have hf := sinr hf
        refine g_iconst X (-1 : Int32) dX8_readText_67 (by decide) ?_
        have hf := Option.some.inj hf
        subst hf
        exact g_iret X hr dX8_readText_68
    · have hf := opos c571 hf
      refine g_aload_n X dX8_readText_38 0 rfl rfl ?_
      refine g_get X dX8_readText_39 ck_X8 0 0 12 rfl rfl (Nat.le_of_ble_eq_true rfl) lkf_X8_106 rfl ?_
      have hf := Option.some.inj hf
      subst hf
      exact g_iret X hr dX8_readText_42
  · have hf := oneg c572 hf
    refine g_iconst X (0 : Int32) dX8_readText_23 (by decide) ?_
    have hf := Option.some.inj hf
    subst hf
    exact g_iret X hr dX8_readText_24
abbrev rmX8_errorPosition : Room := ({ frames := 6, cells := 0, slots := 0, locals := 137 } : Room)
def f_X8_errorPosition (v0 : MOv) (v1 : Fn) (v3 : Fn) : Option (Int32 × MOv × Fn) :=
  (f_X8_readText ((0 : Int32), v0.2.1, v0.2.2.1, v0.2.2.2.1, v0.2.2.2.2.1, v0.2.2.2.2.2) v1 v3).bind (fun q575 => some (q575.1, q575.2.1, q575.2.2))
set_option maxRecDepth 100000 in
set_option maxHeartbeats 4000000 in
theorem c_X8_errorPosition (l : Launch) (D : va_G) (cy : Nat → ClassId) (ad : (Nat → Nat) × (Nat → Nat)) (h0 h1 h2 h3 h4 h5 h6 h7 h8 : Nat) (v0 : MOv) (v1 : Fn) (v3 : Fn) {q : Int32 × MOv × Fn} (hf : f_X8_errorPosition v0 v1 v3 = some q) : CM l yX8_errorPosition cX8_errorPosition 1 (some .int) rmX8_errorPosition D cy ad [.ref h0] [MO h0 h1 h2 h3 h4 h5 h6 h7 h8 v0, AI cy 120 h1 v1, AI cy 107 h3 v3] (some (.int q.1)) [MO h0 h1 h2 h3 h4 h5 h6 h7 h8 q.2.1, AI cy 120 h1 v1, AI cy 107 h3 q.2.2] := by
  refine cm_of (lv0 := [(0, .ref h0)]) (by decide) (Nat.le_of_ble_eq_true rfl) rfl ?_
  intro p e s m args below meth c A X hr hn
  have X : gK p s m args meth c A D cy ad cX8_errorPosition 1 RX8 := X
  unfold f_X8_errorPosition at hf
  refine g_aload_n X dX8_errorPosition_0 0 rfl rfl ?_
  refine g_iconst X (0 : Int32) dX8_errorPosition_1 (by decide) ?_
  refine g_put (gs' := [MO h0 h1 h2 h3 h4 h5 h6 h7 h8 ((0 : Int32), v0.2.1, v0.2.2.1, v0.2.2.2.1, v0.2.2.2.2.1, v0.2.2.2.2.2), AI cy 120 h1 v1, AI cy 107 h3 v3]) X dX8_errorPosition_2 ck_X8 ct_X8 0 0 0 rfl rfl (Nat.le_of_ble_eq_true rfl) lkf_X8_39 rfl rfl rfl (Nat.le_of_ble_eq_true rfl) rfl ?_
  refine g_aload_n X dX8_errorPosition_5 0 rfl rfl ?_
  refine g_aload_n X dX8_errorPosition_6 0 rfl rfl ?_
  refine g_get X dX8_errorPosition_7 ck_X8 0 0 4 rfl rfl (Nat.le_of_ble_eq_true rfl) lkf_X8_16 rfl ?_
  obtain ⟨q575, hq575, hf⟩ := obind hf
  refine g_callV (gs' := [MO h0 h1 h2 h3 h4 h5 h6 h7 h8 q575.2.1, AI cy 120 h1 v1, AI cy 107 h3 q575.2.2]) (rest := []) X dX8_errorPosition_10 (c_X8_readText l D cy ad h0 h1 h2 h3 h4 h5 h6 h7 h8 h3 ((0 : Int32), v0.2.1, v0.2.2.1, v0.2.2.2.1, v0.2.2.2.2.1, v0.2.2.2.2.2) v1 v3 hq575) mf_X8_readText mv_X8_readText lkm_X8_151 ⟨(Nat.le_of_ble_eq_true rfl), (Nat.le_of_ble_eq_true rfl), (Nat.le_of_ble_eq_true rfl), (Nat.le_of_ble_eq_true rfl)⟩ 0 0 rfl rfl rfl rfl [0, 1, 2] _ (by decide : [0, 1, 2].Perm (List.range 3)) rfl (by decide : [0, 1, 2].Perm (List.range 3)) rfl (Nat.le_of_ble_eq_true rfl) rfl ?_
  have hf := Option.some.inj hf
  subst hf
  exact g_iret X hr dX8_errorPosition_13
abbrev rmX8_load : Room := ({ frames := 6, cells := 0, slots := 0, locals := 137 } : Room)
def f_X8_load_b18 (v0 : MOv) (v1 : Fn) (v2 : Fn) (v3 : Fn) (v6 : Fn) (y0 : Bool) : Option (Int32 × MOv × Fn × Fn × Fn) :=
  (f_X8_refused v0 (b2i y0)).bind (fun q583 => if (b2i q583.1) = 0 then (f_X8_copyState 107 107 v3 v2 (0 : Int32) (0 : Int32)).bind (fun q584 => some (q583.2.2.2.2.2.2, (q583.2.1, q583.2.2.1, (0 : Int32), q583.2.2.2.2.1, q583.2.2.2.2.2.1, q583.2.2.2.2.2.2), q584, v3, (upd (upd v6 (0 : Int32).toNatClampNeg (vp_nar .boolean (0 : Int32))) (1 : Int32).toNatClampNeg (vp_nar .boolean (0 : Int32))))) else some ((0 : Int32), q583.2, v2, v3, v6))
set_option maxRecDepth 100000 in
set_option maxHeartbeats 4000000 in
theorem j_X8_load_b18 {p : Program} {l : Launch} {e : Env} {s : State} {m : MethodId} {args : Array Value} {below : List Frame} {meth : Method} {c : Code} {A : Nat → Prop} {D : va_G} {cy : Nat → ClassId} {ad : (Nat → Nat) × (Nat → Nat)} (X : gK p s m args meth c A D cy ad cX8_load 1 RX8) (hr : meth.sig.returnType = (some .int)) {h0 h1 h2 h3 h4 h5 h6 h7 h8 : Nat} (v0 : MOv) (v1 : Fn) (v2 : Fn) (v3 : Fn) (v6 : Fn) (y0 : Bool) {q : Int32 × MOv × Fn × Fn × Fn} (hf : f_X8_load_b18 v0 v1 v2 v3 v6 y0 = some q) : GW p l e rmX8_load s m args below meth c A D 1 0 0 (MQ below (cmQ D cy A (some (.int q.1)) ([MO h0 h1 h2 h3 h4 h5 h6 h7 h8 q.2.1, AI cy 120 h1 v1, AI cy 107 h2 q.2.2.1, AI cy 107 h3 q.2.2.2.1, AZ cy 2 h6 q.2.2.2.2] : List va_W).flatten) args s 0 0 A) 18 [(0, .ref h0)] [.int (b2i y0), .ref h0] [MO h0 h1 h2 h3 h4 h5 h6 h7 h8 v0, AI cy 120 h1 v1, AI cy 107 h2 v2, AI cy 107 h3 v3, AZ cy 2 h6 v6] := by
  unfold f_X8_load_b18 at hf
  obtain ⟨q583, hq583, hf⟩ := obind hf
  refine g_callV (gs' := [MO h0 h1 h2 h3 h4 h5 h6 h7 h8 q583.2, AI cy 120 h1 v1, AI cy 107 h2 v2, AI cy 107 h3 v3, AZ cy 2 h6 v6]) (rest := []) X dX8_load_18 (c_X8_refused l D cy ad h0 h1 h2 h3 h4 h5 h6 h7 h8 v0 (b2i y0) hq583) mf_X8_refused mv_X8_refused lkm_X8_102 ⟨(Nat.le_of_ble_eq_true rfl), (Nat.le_of_ble_eq_true rfl), (Nat.le_of_ble_eq_true rfl), (Nat.le_of_ble_eq_true rfl)⟩ 0 0 rfl rfl rfl rfl [0, 1, 2, 3, 4] _ (by decide : [0, 1, 2, 3, 4].Perm (List.range 5)) rfl (by decide : [0, 1, 2, 3, 4].Perm (List.range 5)) rfl (Nat.le_of_ble_eq_true rfl) rfl ?_
  refine g_if_eq X 26 dX8_load_21 (by decide) (fun c585 => ?_) (fun c585 => ?_)
  · have hf := opos c585 hf
    refine g_aload_n X dX8_load_26 0 rfl rfl ?_
    refine g_get X dX8_load_27 ck_X8 0 0 4 rfl rfl (Nat.le_of_ble_eq_true rfl) lkf_X8_16 rfl ?_
    refine g_iconst X (0 : Int32) dX8_load_30 (by decide) ?_
    refine g_aload_n X dX8_load_31 0 rfl rfl ?_
    refine g_get X dX8_load_32 ck_X8 0 0 3 rfl rfl (Nat.le_of_ble_eq_true rfl) lkf_X8_13 rfl ?_
    refine g_iconst X (0 : Int32) dX8_load_35 (by decide) ?_
    obtain ⟨q584, hq584, hf⟩ := obind hf
    refine g_callS (gs' := [MO h0 h1 h2 h3 h4 h5 h6 h7 h8 q583.2, AI cy 120 h1 v1, AI cy 107 h2 q584, AI cy 107 h3 v3, AZ cy 2 h6 v6]) (rest := []) X dX8_load_36 (c_X8_copyState l D cy ad h3 h2 107 107 v3 v2 (0 : Int32) (0 : Int32) hq584) mf_X8_copyState ms_X8_copyState lkm_X8_154 ⟨(Nat.le_of_ble_eq_true rfl), (Nat.le_of_ble_eq_true rfl), (Nat.le_of_ble_eq_true rfl), (Nat.le_of_ble_eq_true rfl)⟩ [3, 2, 0, 1, 4] _ (by decide : [3, 2, 0, 1, 4].Perm (List.range 5)) rfl (by decide : [3, 2, 0, 1, 4].Perm (List.range 5)) rfl (Nat.le_of_ble_eq_true rfl) rfl ?_
    refine g_aload_n X dX8_load_39 0 rfl rfl ?_
    refine g_iconst X (0 : Int32) dX8_load_40 (by decide) ?_
    refine g_put (gs' := [MO h0 h1 h2 h3 h4 h5 h6 h7 h8 (q583.2.1, q583.2.2.1, (0 : Int32), q583.2.2.2.2.1, q583.2.2.2.2.2.1, q583.2.2.2.2.2.2), AI cy 120 h1 v1, AI cy 107 h2 q584, AI cy 107 h3 v3, AZ cy 2 h6 v6]) X dX8_load_41 ck_X8 ct_X8 0 0 6 rfl rfl (Nat.le_of_ble_eq_true rfl) lkf_X8_158 rfl rfl rfl (Nat.le_of_ble_eq_true rfl) rfl ?_
    refine g_aload_n X dX8_load_44 0 rfl rfl ?_
    refine g_get X dX8_load_45 ck_X8 0 0 8 rfl rfl (Nat.le_of_ble_eq_true rfl) lkf_X8_25 rfl ?_
    refine g_iconst X (0 : Int32) dX8_load_48 (by decide) ?_
    refine g_iconst X (0 : Int32) dX8_load_49 (by decide) ?_
    refine g_bastore (gs' := [MO h0 h1 h2 h3 h4 h5 h6 h7 h8 (q583.2.1, q583.2.2.1, (0 : Int32), q583.2.2.2.2.1, q583.2.2.2.2.2.1, q583.2.2.2.2.2.2), AI cy 120 h1 v1, AI cy 107 h2 q584, AI cy 107 h3 v3, AZ cy 2 h6 (upd v6 (0 : Int32).toNatClampNeg (vp_nar .boolean (0 : Int32)))]) X dX8_load_50 4 0 rfl rfl (by decide) rfl ?_
    refine g_aload_n X dX8_load_51 0 rfl rfl ?_
    refine g_get X dX8_load_52 ck_X8 0 0 8 rfl rfl (Nat.le_of_ble_eq_true rfl) lkf_X8_25 rfl ?_
    refine g_iconst X (1 : Int32) dX8_load_55 (by decide) ?_
    refine g_iconst X (0 : Int32) dX8_load_56 (by decide) ?_
    refine g_bastore (gs' := [MO h0 h1 h2 h3 h4 h5 h6 h7 h8 (q583.2.1, q583.2.2.1, (0 : Int32), q583.2.2.2.2.1, q583.2.2.2.2.2.1, q583.2.2.2.2.2.2), AI cy 120 h1 v1, AI cy 107 h2 q584, AI cy 107 h3 v3, AZ cy 2 h6 (upd (upd v6 (0 : Int32).toNatClampNeg (vp_nar .boolean (0 : Int32))) (1 : Int32).toNatClampNeg (vp_nar .boolean (0 : Int32)))]) X dX8_load_57 4 0 rfl rfl (by decide) rfl ?_
    refine g_aload_n X dX8_load_58 0 rfl rfl ?_
    refine g_get X dX8_load_59 ck_X8 0 0 13 rfl rfl (Nat.le_of_ble_eq_true rfl) lkf_X8_117 rfl ?_
    have hf := Option.some.inj hf
    subst hf
    exact g_iret X hr dX8_load_62
  · have hf := oneg c585 hf
    refine g_iconst X (0 : Int32) dX8_load_24 (by decide) ?_
    have hf := Option.some.inj hf
    subst hf
    exact g_iret X hr dX8_load_25
def f_X8_load (v0 : MOv) (v1 : Fn) (v2 : Fn) (v3 : Fn) (v6 : Fn) : Option (Int32 × MOv × Fn × Fn × Fn) :=
  (f_X8_readText v0 v1 v3).bind (fun q582 => if q582.1 = (-1 : Int32) then f_X8_load_b18 q582.2.1 v1 v2 q582.2.2 v6 false else f_X8_load_b18 q582.2.1 v1 v2 q582.2.2 v6 true)
set_option maxRecDepth 100000 in
set_option maxHeartbeats 4000000 in
theorem c_X8_load (l : Launch) (D : va_G) (cy : Nat → ClassId) (ad : (Nat → Nat) × (Nat → Nat)) (h0 h1 h2 h3 h4 h5 h6 h7 h8 : Nat) (v0 : MOv) (v1 : Fn) (v2 : Fn) (v3 : Fn) (v6 : Fn) {q : Int32 × MOv × Fn × Fn × Fn} (hf : f_X8_load v0 v1 v2 v3 v6 = some q) : CM l yX8_load cX8_load 1 (some .int) rmX8_load D cy ad [.ref h0] [MO h0 h1 h2 h3 h4 h5 h6 h7 h8 v0, AI cy 120 h1 v1, AI cy 107 h2 v2, AI cy 107 h3 v3, AZ cy 2 h6 v6] (some (.int q.1)) [MO h0 h1 h2 h3 h4 h5 h6 h7 h8 q.2.1, AI cy 120 h1 v1, AI cy 107 h2 q.2.2.1, AI cy 107 h3 q.2.2.2.1, AZ cy 2 h6 q.2.2.2.2] := by
  refine cm_of (lv0 := [(0, .ref h0)]) (by decide) (Nat.le_of_ble_eq_true rfl) rfl ?_
  intro p e s m args below meth c A X hr hn
  have X : gK p s m args meth c A D cy ad cX8_load 1 RX8 := X
  unfold f_X8_load at hf
  refine g_aload_n X dX8_load_0 0 rfl rfl ?_
  refine g_aload_n X dX8_load_1 0 rfl rfl ?_
  refine g_aload_n X dX8_load_2 0 rfl rfl ?_
  refine g_get X dX8_load_3 ck_X8 0 0 4 rfl rfl (Nat.le_of_ble_eq_true rfl) lkf_X8_16 rfl ?_
  obtain ⟨q582, hq582, hf⟩ := obind hf
  refine g_callV (gs' := [MO h0 h1 h2 h3 h4 h5 h6 h7 h8 q582.2.1, AI cy 120 h1 v1, AI cy 107 h2 v2, AI cy 107 h3 q582.2.2, AZ cy 2 h6 v6]) (rest := [.ref h0]) X dX8_load_6 (c_X8_readText l D cy ad h0 h1 h2 h3 h4 h5 h6 h7 h8 h3 v0 v1 v3 hq582) mf_X8_readText mv_X8_readText lkm_X8_151 ⟨(Nat.le_of_ble_eq_true rfl), (Nat.le_of_ble_eq_true rfl), (Nat.le_of_ble_eq_true rfl), (Nat.le_of_ble_eq_true rfl)⟩ 0 0 rfl rfl rfl rfl [0, 1, 3, 2, 4] _ (by decide : [0, 1, 3, 2, 4].Perm (List.range 5)) rfl (by decide : [0, 1, 3, 2, 4].Perm (List.range 5)) rfl (Nat.le_of_ble_eq_true rfl) rfl ?_
  refine g_iconst X (-1 : Int32) dX8_load_9 (by decide) ?_
  refine g_icmp_ne X 17 dX8_load_10 (by decide) (fun c586 => ?_) (fun c586 => ?_)
  · have hf := oneg c586 hf
    refine g_iconst X (1 : Int32) dX8_load_17 (by decide) ?_
    exact j_X8_load_b18 X hr q582.2.1 v1 v2 q582.2.2 v6 true hf
  · have hf := opos c586 hf
    refine g_iconst X (0 : Int32) dX8_load_13 (by decide) ?_
    refine g_goto X 18 dX8_load_14 (by decide) ?_
    exact j_X8_load_b18 X hr q582.2.1 v1 v2 q582.2.2 v6 false hf
abbrev rmX8_about : Room := ({ frames := 6, cells := 0, slots := 0, locals := 137 } : Room)
def f_X8_about_B113_b150 (v0 : MOv) (v2 : Fn) (x3 : Int32) (y0 : Bool) (y1 : Int32) : Option ((Int32 × Int32) ⊕ ((Int32))) :=
  some (.inl ((y1 + (b2i y0)), (x3 + (1 : Int32))))
set_option maxRecDepth 100000 in
set_option maxHeartbeats 4000000 in
theorem j_X8_about_B113_b150 {p : Program} {l : Launch} {e : Env} {s : State} {m : MethodId} {args : Array Value} {below : List Frame} {meth : Method} {c : Code} {A : Nat → Prop} {D : va_G} {cy : Nat → ClassId} {ad : (Nat → Nat) × (Nat → Nat)} {Q : State → Prop} (X : gK p s m args meth c A D cy ad cX8_about 4 RX8) (hr : meth.sig.returnType = (some .int)) {h0 h1 h2 h3 h4 h5 h6 h7 h8 : Nat} (v0 : MOv) (v2 : Fn) (x3 : Int32) (y0 : Bool) (y1 : Int32) {q : (Int32 × Int32) ⊕ ((Int32))} (hf : f_X8_about_B113_b150 v0 v2 x3 y0 y1 = some q) (K1 : ∀ s' : Int32 × Int32, q = .inl s' → GW p l e rmX8_about s m args below meth c A D 4 0 0 Q 113 [(0, .ref h0), (2, .int s'.1), (3, .int s'.2)] [] [MO h0 h1 h2 h3 h4 h5 h6 h7 h8 v0, AI cy 107 h2 v2]) (K2 : ∀ e' : Int32, q = .inr (e') → GW p l e rmX8_about s m args below meth c A D 4 0 0 Q 158 [(2, .int e')] [] [MO h0 h1 h2 h3 h4 h5 h6 h7 h8 v0, AI cy 107 h2 v2]) : GW p l e rmX8_about s m args below meth c A D 4 0 0 Q 150 [(0, .ref h0), (3, .int x3)] [.int (b2i y0), .int y1] [MO h0 h1 h2 h3 h4 h5 h6 h7 h8 v0, AI cy 107 h2 v2] := by
  unfold f_X8_about_B113_b150 at hf
  refine g_iadd X dX8_about_150 ?_
  refine g_istore_n (lv' := [(0, .ref h0), (2, .int (y1 + (b2i y0))), (3, .int x3)]) X dX8_about_151 [1, 0, 2] rfl (Nat.le_of_ble_eq_true rfl) rfl ?_
  refine g_iinc (lv' := [(0, .ref h0), (2, .int (y1 + (b2i y0))), (3, .int (x3 + (1 : Int32)))]) (v := (1 : Int32)) X dX8_about_152 2 rfl (by decide) [1, 2, 0] (Nat.le_of_ble_eq_true rfl) rfl ?_
  refine g_goto X 113 dX8_about_155 (by decide) ?_
  exact K1 ((y1 + (b2i y0)), (x3 + (1 : Int32))) (Option.some.inj hf).symm
def f_X8_about_B113 (v0 : MOv) (v2 : Fn) (z : Int32 × Int32) : Option ((Int32 × Int32) ⊕ ((Int32))) :=
  if (v2 (4 : Int32).toNatClampNeg) ≤ z.2 then some (.inr ((z.1))) else (f_X8_many v2 z.2).bind (fun q613 => (f_X8_many v2 (z.2 + (1 : Int32))).bind (fun q614 => if q613 = q614 then f_X8_about_B113_b150 v0 v2 z.2 true z.1 else f_X8_about_B113_b150 v0 v2 z.2 false z.1))
set_option maxRecDepth 100000 in
set_option maxHeartbeats 4000000 in
theorem b_X8_about_B113 {p : Program} {l : Launch} {e : Env} {s : State} {m : MethodId} {args : Array Value} {below : List Frame} {meth : Method} {c : Code} {A : Nat → Prop} {D : va_G} {cy : Nat → ClassId} {ad : (Nat → Nat) × (Nat → Nat)} {Q : State → Prop} (X : gK p s m args meth c A D cy ad cX8_about 4 RX8) (hr : meth.sig.returnType = (some .int)) {h0 h1 h2 h3 h4 h5 h6 h7 h8 : Nat} (v0 : MOv) (v2 : Fn) (z : Int32 × Int32) {q : (Int32 × Int32) ⊕ ((Int32))} (hf : f_X8_about_B113 v0 v2 z = some q) (K1 : ∀ s' : Int32 × Int32, q = .inl s' → GW p l e rmX8_about s m args below meth c A D 4 0 0 Q 113 [(0, .ref h0), (2, .int s'.1), (3, .int s'.2)] [] [MO h0 h1 h2 h3 h4 h5 h6 h7 h8 v0, AI cy 107 h2 v2]) (K2 : ∀ e' : Int32, q = .inr (e') → GW p l e rmX8_about s m args below meth c A D 4 0 0 Q 158 [(2, .int e')] [] [MO h0 h1 h2 h3 h4 h5 h6 h7 h8 v0, AI cy 107 h2 v2]) : GW p l e rmX8_about s m args below meth c A D 4 0 0 Q 113 [(0, .ref h0), (2, .int z.1), (3, .int z.2)] [] [MO h0 h1 h2 h3 h4 h5 h6 h7 h8 v0, AI cy 107 h2 v2] := by
  unfold f_X8_about_B113 at hf
  refine g_iload_n X dX8_about_113 2 rfl rfl ?_
  refine g_aload_n X dX8_about_114 0 rfl rfl ?_
  refine g_get X dX8_about_115 ck_X8 0 0 3 rfl rfl (Nat.le_of_ble_eq_true rfl) lkf_X8_13 rfl ?_
  refine g_iconst X (4 : Int32) dX8_about_118 (by decide) ?_
  refine g_iaload X dX8_about_119 1 0 rfl rfl (by decide) ?_
  refine g_icmp_ge X 158 dX8_about_120 (by decide) (fun c616 => ?_) (fun c616 => ?_)
  · have hf := opos c616 hf
    refine g_sub [1] (lv' := [(2, .int z.1)]) rfl ?_
    exact K2 (z.1) (Option.some.inj hf).symm
  · have hf := oneg c616 hf
    refine g_iload_n X dX8_about_123 1 rfl rfl ?_
    refine g_aload_n X dX8_about_124 0 rfl rfl ?_
    refine g_get X dX8_about_125 ck_X8 0 0 3 rfl rfl (Nat.le_of_ble_eq_true rfl) lkf_X8_13 rfl ?_
    refine g_iload_n X dX8_about_128 2 rfl rfl ?_
    obtain ⟨q613, hq613, hf⟩ := obind hf
    refine g_callS (gs' := [MO h0 h1 h2 h3 h4 h5 h6 h7 h8 v0, AI cy 107 h2 v2]) (rest := [.int z.1]) X dX8_about_129 (c_X8_many l D cy ad h2 v2 z.2 hq613) mf_X8_many ms_X8_many lkm_X8_79 ⟨(Nat.le_of_ble_eq_true rfl), (Nat.le_of_ble_eq_true rfl), (Nat.le_of_ble_eq_true rfl), (Nat.le_of_ble_eq_true rfl)⟩ [1, 0] _ (by decide : [1, 0].Perm (List.range 2)) rfl (by decide : [1, 0].Perm (List.range 2)) rfl (Nat.le_of_ble_eq_true rfl) rfl ?_
    refine g_aload_n X dX8_about_132 0 rfl rfl ?_
    refine g_get X dX8_about_133 ck_X8 0 0 3 rfl rfl (Nat.le_of_ble_eq_true rfl) lkf_X8_13 rfl ?_
    refine g_iload_n X dX8_about_136 2 rfl rfl ?_
    refine g_iconst X (1 : Int32) dX8_about_137 (by decide) ?_
    refine g_iadd X dX8_about_138 ?_
    obtain ⟨q614, hq614, hf⟩ := obind hf
    refine g_callS (gs' := [MO h0 h1 h2 h3 h4 h5 h6 h7 h8 v0, AI cy 107 h2 v2]) (rest := [.int q613, .int z.1]) X dX8_about_139 (c_X8_many l D cy ad h2 v2 (z.2 + (1 : Int32)) hq614) mf_X8_many ms_X8_many lkm_X8_79 ⟨(Nat.le_of_ble_eq_true rfl), (Nat.le_of_ble_eq_true rfl), (Nat.le_of_ble_eq_true rfl), (Nat.le_of_ble_eq_true rfl)⟩ [1, 0] _ (by decide : [1, 0].Perm (List.range 2)) rfl (by decide : [1, 0].Perm (List.range 2)) rfl (Nat.le_of_ble_eq_true rfl) rfl ?_
    refine g_icmp_ne X 149 dX8_about_142 (by decide) (fun c615 => ?_) (fun c615 => ?_)
    · have hf := oneg c615 hf
      refine g_iconst X (0 : Int32) dX8_about_149 (by decide) ?_
      refine g_sub [0, 2] (lv' := [(0, .ref h0), (3, .int z.2)]) rfl ?_
      exact j_X8_about_B113_b150 X hr v0 v2 z.2 false z.1 hf K1 K2
    · have hf := opos c615 hf
      refine g_iconst X (1 : Int32) dX8_about_145 (by decide) ?_
      refine g_goto X 150 dX8_about_146 (by decide) ?_
      refine g_sub [0, 2] (lv' := [(0, .ref h0), (3, .int z.2)]) rfl ?_
      exact j_X8_about_B113_b150 X hr v0 v2 z.2 true z.1 hf K1 K2
set_option maxRecDepth 100000 in
set_option maxHeartbeats 4000000 in
theorem w_X8_about_B113 {p : Program} {l : Launch} {e : Env} {s : State} {m : MethodId} {args : Array Value} {below : List Frame} {meth : Method} {c : Code} {A : Nat → Prop} {D : va_G} {cy : Nat → ClassId} {ad : (Nat → Nat) × (Nat → Nat)} {Q : State → Prop} (X : gK p s m args meth c A D cy ad cX8_about 4 RX8) (hr : meth.sig.returnType = (some .int)) {h0 h1 h2 h3 h4 h5 h6 h7 h8 : Nat} (v0 : MOv) (v2 : Fn) {n : Nat} {z : Int32 × Int32} {q : (Int32)} (hf : itl (f_X8_about_B113 v0 v2) n z = some q) (K2 : GW p l e rmX8_about s m args below meth c A D 4 0 0 Q 158 [(2, .int q)] [] [MO h0 h1 h2 h3 h4 h5 h6 h7 h8 v0, AI cy 107 h2 v2]) : GW p l e rmX8_about s m args below meth c A D 4 0 0 Q 113 [(0, .ref h0), (2, .int z.1), (3, .int z.2)] [] [MO h0 h1 h2 h3 h4 h5 h6 h7 h8 v0, AI cy 107 h2 v2] :=
  itl_ind (f := f_X8_about_B113 v0 v2) (I := fun z => GW p l e rmX8_about s m args below meth c A D 4 0 0 Q 113 [(0, .ref h0), (2, .int z.1), (3, .int z.2)] [] [MO h0 h1 h2 h3 h4 h5 h6 h7 h8 v0, AI cy 107 h2 v2]) (J := (fun q => GW p l e rmX8_about s m args below meth c A D 4 0 0 Q 158 [(2, .int q)] [] [MO h0 h1 h2 h3 h4 h5 h6 h7 h8 v0, AI cy 107 h2 v2])) (fun z x h k1 k2 => b_X8_about_B113 X hr v0 v2 z h (fun s' hs => k1 s' hs) (fun e' he => k2 e' he)) n z q hf K2
def f_X8_about_b18 (v0 : MOv) (v2 : Fn) (x1 : Int32) (y0 : Bool) : Option (Int32 × MOv) :=
  (f_X8_refused v0 (b2i y0)).bind (fun q604 => if (b2i q604.1) = 0 then if x1 = (0 : Int32) then some ((v2 (0 : Int32).toNatClampNeg), q604.2) else if x1 = (1 : Int32) then (f_X8_allOf (v2 (0 : Int32).toNatClampNeg)).bind (fun q621 => some (q621, q604.2)) else if x1 = (2 : Int32) then (f_X8_leftOf v2).bind (fun q620 => some (q620, q604.2)) else if x1 = (3 : Int32) then some ((v2 (4 : Int32).toNatClampNeg), q604.2) else if x1 = (4 : Int32) then if (x1 - (2 : Int32)) < 0 ∨ 107 ≤ (x1 - (2 : Int32)).toNatClampNeg then none else some ((v2 (x1 - (2 : Int32)).toNatClampNeg), q604.2) else if x1 = (5 : Int32) then if (x1 - (2 : Int32)) < 0 ∨ 107 ≤ (x1 - (2 : Int32)).toNatClampNeg then none else some ((v2 (x1 - (2 : Int32)).toNatClampNeg), q604.2) else if x1 = (6 : Int32) then (itl (f_X8_about_B113 q604.2 v2) FU ((0 : Int32), (0 : Int32))).bind (fun q617 => some (q617, q604.2)) else if (x1 - (2 : Int32)) < 0 ∨ 107 ≤ (x1 - (2 : Int32)).toNatClampNeg then none else some ((v2 (x1 - (2 : Int32)).toNatClampNeg), q604.2) else some ((0 : Int32), q604.2))
set_option maxRecDepth 100000 in
set_option maxHeartbeats 4000000 in
theorem j_X8_about_b18 {p : Program} {l : Launch} {e : Env} {s : State} {m : MethodId} {args : Array Value} {below : List Frame} {meth : Method} {c : Code} {A : Nat → Prop} {D : va_G} {cy : Nat → ClassId} {ad : (Nat → Nat) × (Nat → Nat)} (X : gK p s m args meth c A D cy ad cX8_about 4 RX8) (hr : meth.sig.returnType = (some .int)) {h0 h1 h2 h3 h4 h5 h6 h7 h8 : Nat} (v0 : MOv) (v2 : Fn) (x1 : Int32) (y0 : Bool) {q : Int32 × MOv} (hf : f_X8_about_b18 v0 v2 x1 y0 = some q) : GW p l e rmX8_about s m args below meth c A D 4 0 0 (MQ below (cmQ D cy A (some (.int q.1)) ([MO h0 h1 h2 h3 h4 h5 h6 h7 h8 q.2, AI cy 107 h2 v2] : List va_W).flatten) args s 0 0 A) 18 [(0, .ref h0), (1, .int x1)] [.int (b2i y0), .ref h0] [MO h0 h1 h2 h3 h4 h5 h6 h7 h8 v0, AI cy 107 h2 v2] := by
  unfold f_X8_about_b18 at hf
  obtain ⟨q604, hq604, hf⟩ := obind hf
  refine g_callV (gs' := [MO h0 h1 h2 h3 h4 h5 h6 h7 h8 q604.2, AI cy 107 h2 v2]) (rest := []) X dX8_about_18 (c_X8_refused l D cy ad h0 h1 h2 h3 h4 h5 h6 h7 h8 v0 (b2i y0) hq604) mf_X8_refused mv_X8_refused lkm_X8_102 ⟨(Nat.le_of_ble_eq_true rfl), (Nat.le_of_ble_eq_true rfl), (Nat.le_of_ble_eq_true rfl), (Nat.le_of_ble_eq_true rfl)⟩ 0 0 rfl rfl rfl rfl [0, 1] _ (by decide : [0, 1].Perm (List.range 2)) rfl (by decide : [0, 1].Perm (List.range 2)) rfl (Nat.le_of_ble_eq_true rfl) rfl ?_
  refine g_if_eq X 26 dX8_about_21 (by decide) (fun c622 => ?_) (fun c622 => ?_)
  · have hf := opos c622 hf
    refine g_iload_n X dX8_about_26 1 rfl rfl ?_
    by_cases c606 : x1 = (0 : Int32)
    · have hf := opos c606 hf
      refine g_tableIn (off := 41) X 68 dX8_about_27 (by rw [c606]; decide) (by rw [c606]; decide) (by rw [c606]; decide) (by decide) ?_
      refine g_aload_n X dX8_about_68 0 rfl rfl ?_
      refine g_get X dX8_about_69 ck_X8 0 0 3 rfl rfl (Nat.le_of_ble_eq_true rfl) lkf_X8_13 rfl ?_
      refine g_iconst X (0 : Int32) dX8_about_72 (by decide) ?_
      refine g_iaload X dX8_about_73 1 0 rfl rfl (by decide) ?_
      have hf := Option.some.inj hf
      subst hf
      exact g_iret X hr dX8_about_74
    · have hf := oneg c606 hf
      by_cases c607 : x1 = (1 : Int32)
      · have hf := opos c607 hf
        refine g_tableIn (off := 48) X 75 dX8_about_27 (by rw [c607]; decide) (by rw [c607]; decide) (by rw [c607]; decide) (by decide) ?_
        refine g_aload_n X dX8_about_75 0 rfl rfl ?_
        refine g_get X dX8_about_76 ck_X8 0 0 3 rfl rfl (Nat.le_of_ble_eq_true rfl) lkf_X8_13 rfl ?_
        refine g_iconst X (0 : Int32) dX8_about_79 (by decide) ?_
        refine g_iaload X dX8_about_80 1 0 rfl rfl (by decide) ?_
        obtain ⟨q621, hq621, hf⟩ := obind hf
        refine g_callS (gs' := [MO h0 h1 h2 h3 h4 h5 h6 h7 h8 q604.2, AI cy 107 h2 v2]) (rest := []) X dX8_about_81 (c_X8_allOf l D cy ad (v2 (0 : Int32).toNatClampNeg) hq621) mf_X8_allOf ms_X8_allOf lkm_X8_72 ⟨(Nat.le_of_ble_eq_true rfl), (Nat.le_of_ble_eq_true rfl), (Nat.le_of_ble_eq_true rfl), (Nat.le_of_ble_eq_true rfl)⟩ [0, 1] _ (by decide : [0, 1].Perm (List.range 2)) rfl (by decide : [0, 1].Perm (List.range 2)) rfl (Nat.le_of_ble_eq_true rfl) rfl ?_
        have hf := Option.some.inj hf
        subst hf
        exact g_iret X hr dX8_about_84
      · have hf := oneg c607 hf
        by_cases c608 : x1 = (2 : Int32)
        · have hf := opos c608 hf
          refine g_tableIn (off := 58) X 85 dX8_about_27 (by rw [c608]; decide) (by rw [c608]; decide) (by rw [c608]; decide) (by decide) ?_
          refine g_aload_n X dX8_about_85 0 rfl rfl ?_
          refine g_get X dX8_about_86 ck_X8 0 0 3 rfl rfl (Nat.le_of_ble_eq_true rfl) lkf_X8_13 rfl ?_
          obtain ⟨q620, hq620, hf⟩ := obind hf
          refine g_callS (gs' := [MO h0 h1 h2 h3 h4 h5 h6 h7 h8 q604.2, AI cy 107 h2 v2]) (rest := []) X dX8_about_89 (c_X8_leftOf l D cy ad h2 v2 hq620) mf_X8_leftOf ms_X8_leftOf lkm_X8_86 ⟨(Nat.le_of_ble_eq_true rfl), (Nat.le_of_ble_eq_true rfl), (Nat.le_of_ble_eq_true rfl), (Nat.le_of_ble_eq_true rfl)⟩ [1, 0] _ (by decide : [1, 0].Perm (List.range 2)) rfl (by decide : [1, 0].Perm (List.range 2)) rfl (Nat.le_of_ble_eq_true rfl) rfl ?_
          have hf := Option.some.inj hf
          subst hf
          exact g_iret X hr dX8_about_92
        · have hf := oneg c608 hf
          by_cases c609 : x1 = (3 : Int32)
          · have hf := opos c609 hf
            refine g_tableIn (off := 66) X 93 dX8_about_27 (by rw [c609]; decide) (by rw [c609]; decide) (by rw [c609]; decide) (by decide) ?_
            refine g_aload_n X dX8_about_93 0 rfl rfl ?_
            refine g_get X dX8_about_94 ck_X8 0 0 3 rfl rfl (Nat.le_of_ble_eq_true rfl) lkf_X8_13 rfl ?_
            refine g_iconst X (4 : Int32) dX8_about_97 (by decide) ?_
            refine g_iaload X dX8_about_98 1 0 rfl rfl (by decide) ?_
            have hf := Option.some.inj hf
            subst hf
            exact g_iret X hr dX8_about_99
          · have hf := oneg c609 hf
            by_cases c610 : x1 = (4 : Int32)
            · have hf := opos c610 hf
              refine g_tableIn (off := 73) X 100 dX8_about_27 (by rw [c610]; decide) (by rw [c610]; decide) (by rw [c610]; decide) (by decide) ?_
              refine g_aload_n X dX8_about_100 0 rfl rfl ?_
              refine g_get X dX8_about_101 ck_X8 0 0 3 rfl rfl (Nat.le_of_ble_eq_true rfl) lkf_X8_13 rfl ?_
              refine g_iload_n X dX8_about_104 1 rfl rfl ?_
              refine g_iconst X (2 : Int32) dX8_about_105 (by decide) ?_
              refine g_isub X dX8_about_106 ?_
              obtain ⟨n619, hf⟩ := oguard hf
              refine g_iaload X dX8_about_107 1 0 rfl rfl n619 ?_
              have hf := Option.some.inj hf
              subst hf
              exact g_iret X hr dX8_about_108
            · have hf := oneg c610 hf
              by_cases c611 : x1 = (5 : Int32)
              · have hf := opos c611 hf
                refine g_tableIn (off := 73) X 100 dX8_about_27 (by rw [c611]; decide) (by rw [c611]; decide) (by rw [c611]; decide) (by decide) ?_
                refine g_aload_n X dX8_about_100 0 rfl rfl ?_
                refine g_get X dX8_about_101 ck_X8 0 0 3 rfl rfl (Nat.le_of_ble_eq_true rfl) lkf_X8_13 rfl ?_
                refine g_iload_n X dX8_about_104 1 rfl rfl ?_
                refine g_iconst X (2 : Int32) dX8_about_105 (by decide) ?_
                refine g_isub X dX8_about_106 ?_
                obtain ⟨n618, hf⟩ := oguard hf
                refine g_iaload X dX8_about_107 1 0 rfl rfl n618 ?_
                have hf := Option.some.inj hf
                subst hf
                exact g_iret X hr dX8_about_108
              · have hf := oneg c611 hf
                by_cases c612 : x1 = (6 : Int32)
                · have hf := opos c612 hf
                  refine g_tableIn (off := 82) X 109 dX8_about_27 (by rw [c612]; decide) (by rw [c612]; decide) (by rw [c612]; decide) (by decide) ?_
                  refine g_iconst X (0 : Int32) dX8_about_109 (by decide) ?_
                  refine g_istore_n (lv' := [(0, .ref h0), (1, .int x1), (2, .int (0 : Int32))]) X dX8_about_110 [1, 2, 0] rfl (Nat.le_of_ble_eq_true rfl) rfl ?_
                  refine g_iconst X (0 : Int32) dX8_about_111 (by decide) ?_
                  refine g_istore_n (lv' := [(0, .ref h0), (1, .int x1), (2, .int (0 : Int32)), (3, .int (0 : Int32))]) X dX8_about_112 [1, 2, 3, 0] rfl (Nat.le_of_ble_eq_true rfl) rfl ?_
                  obtain ⟨q617, hq617, hf⟩ := obind hf
                  refine g_sub [0, 2, 3] (lv' := [(0, .ref h0), (2, .int (0 : Int32)), (3, .int (0 : Int32))]) rfl ?_
                  refine w_X8_about_B113 X hr q604.2 v2 hq617 ?_
                  refine g_iload_n X dX8_about_158 0 rfl rfl ?_
                  have hf := Option.some.inj hf
                  subst hf
                  exact g_iret X hr dX8_about_159
                · have hf := oneg c612 hf
                  refine g_tableOut X 160 dX8_about_27 (sw_out (fun k9 h91 h92 h93 => ?_)) (by decide) ?_
                  · have := sw_ne (by decide : ((0 : Int32)).toInt = 0) c606
                    have := sw_ne (by decide : ((1 : Int32)).toInt = 1) c607
                    have := sw_ne (by decide : ((2 : Int32)).toInt = 2) c608
                    have := sw_ne (by decide : ((3 : Int32)).toInt = 3) c609
                    have := sw_ne (by decide : ((4 : Int32)).toInt = 4) c610
                    have := sw_ne (by decide : ((5 : Int32)).toInt = 5) c611
                    have := sw_ne (by decide : ((6 : Int32)).toInt = 6) c612
                    omega
                  · refine g_aload_n X dX8_about_160 0 rfl rfl ?_
                    refine g_get X dX8_about_161 ck_X8 0 0 3 rfl rfl (Nat.le_of_ble_eq_true rfl) lkf_X8_13 rfl ?_
                    refine g_iload_n X dX8_about_164 1 rfl rfl ?_
                    refine g_iconst X (2 : Int32) dX8_about_165 (by decide) ?_
                    refine g_isub X dX8_about_166 ?_
                    obtain ⟨n605, hf⟩ := oguard hf
                    refine g_iaload X dX8_about_167 1 0 rfl rfl n605 ?_
                    have hf := Option.some.inj hf
                    subst hf
                    exact g_iret X hr dX8_about_168
  · have hf := oneg c622 hf
    refine g_iconst X (0 : Int32) dX8_about_24 (by decide) ?_
    have hf := Option.some.inj hf
    subst hf
    exact g_iret X hr dX8_about_25
def f_X8_about (v0 : MOv) (v2 : Fn) (p1 : Int32) : Option (Int32 × MOv) :=
  (f_X8_in (p1.toInt64) (0 : Int64) (8 : Int64)).bind (fun q603 => if (b2i q603) = 0 then f_X8_about_b18 v0 v2 p1 true else f_X8_about_b18 v0 v2 p1 false)
set_option maxRecDepth 100000 in
set_option maxHeartbeats 4000000 in
theorem c_X8_about (l : Launch) (D : va_G) (cy : Nat → ClassId) (ad : (Nat → Nat) × (Nat → Nat)) (h0 h1 h2 h3 h4 h5 h6 h7 h8 : Nat) (v0 : MOv) (v2 : Fn) (p1 : Int32) {q : Int32 × MOv} (hf : f_X8_about v0 v2 p1 = some q) : CM l yX8_about cX8_about 4 (some .int) rmX8_about D cy ad [.ref h0, .int p1] [MO h0 h1 h2 h3 h4 h5 h6 h7 h8 v0, AI cy 107 h2 v2] (some (.int q.1)) [MO h0 h1 h2 h3 h4 h5 h6 h7 h8 q.2, AI cy 107 h2 v2] := by
  refine cm_of (lv0 := [(0, .ref h0), (1, .int p1)]) (by decide) (Nat.le_of_ble_eq_true rfl) rfl ?_
  intro p e s m args below meth c A X hr hn
  have X : gK p s m args meth c A D cy ad cX8_about 4 RX8 := X
  unfold f_X8_about at hf
  refine g_aload_n X dX8_about_0 0 rfl rfl ?_
  refine g_iload_n X dX8_about_1 1 rfl rfl ?_
  refine g_i2l X dX8_about_2 ?_
  refine g_lconst X (0 : Int64) dX8_about_3 (by decide) ?_
  refine g_ldc2 X lkl_X8_161 dX8_about_4 ?_
  obtain ⟨q603, hq603, hf⟩ := obind hf
  refine g_callS (gs' := [MO h0 h1 h2 h3 h4 h5 h6 h7 h8 v0, AI cy 107 h2 v2]) (rest := [.ref h0]) X dX8_about_7 (c_X8_in l D cy ad (p1.toInt64) (0 : Int64) (8 : Int64) hq603) mf_X8_in ms_X8_in lkm_X8_43 ⟨(Nat.le_of_ble_eq_true rfl), (Nat.le_of_ble_eq_true rfl), (Nat.le_of_ble_eq_true rfl), (Nat.le_of_ble_eq_true rfl)⟩ [0, 1] _ (by decide : [0, 1].Perm (List.range 2)) rfl (by decide : [0, 1].Perm (List.range 2)) rfl (Nat.le_of_ble_eq_true rfl) rfl ?_
  refine g_if_eq X 17 dX8_about_10 (by decide) (fun c623 => ?_) (fun c623 => ?_)
  · have hf := opos c623 hf
    refine g_iconst X (1 : Int32) dX8_about_17 (by decide) ?_
    exact j_X8_about_b18 X hr v0 v2 p1 true hf
  · have hf := oneg c623 hf
    refine g_iconst X (0 : Int32) dX8_about_13 (by decide) ?_
    refine g_goto X 18 dX8_about_14 (by decide) ?_
    exact j_X8_about_b18 X hr v0 v2 p1 false hf
abbrev rmX8_coin : Room := ({ frames := 5, cells := 0, slots := 0, locals := 117 } : Room)
def f_X8_coin_b17 (v0 : MOv) (v2 : Fn) (x1 : Int32) (y0 : Bool) : Option (Int32 × MOv) :=
  (f_X8_refused v0 (b2i y0)).bind (fun q631 => if (b2i q631.1) = 0 then (f_X8_coinOf v2 x1).bind (fun q632 => some (q632, q631.2)) else some ((0 : Int32), q631.2))
set_option maxRecDepth 100000 in
set_option maxHeartbeats 4000000 in
theorem j_X8_coin_b17 {p : Program} {l : Launch} {e : Env} {s : State} {m : MethodId} {args : Array Value} {below : List Frame} {meth : Method} {c : Code} {A : Nat → Prop} {D : va_G} {cy : Nat → ClassId} {ad : (Nat → Nat) × (Nat → Nat)} (X : gK p s m args meth c A D cy ad cX8_coin 2 RX8) (hr : meth.sig.returnType = (some .int)) {h0 h1 h2 h3 h4 h5 h6 h7 h8 : Nat} (v0 : MOv) (v2 : Fn) (x1 : Int32) (y0 : Bool) {q : Int32 × MOv} (hf : f_X8_coin_b17 v0 v2 x1 y0 = some q) : GW p l e rmX8_coin s m args below meth c A D 2 0 0 (MQ below (cmQ D cy A (some (.int q.1)) ([MO h0 h1 h2 h3 h4 h5 h6 h7 h8 q.2, AI cy 107 h2 v2] : List va_W).flatten) args s 0 0 A) 17 [(0, .ref h0), (1, .int x1)] [.int (b2i y0), .ref h0] [MO h0 h1 h2 h3 h4 h5 h6 h7 h8 v0, AI cy 107 h2 v2] := by
  unfold f_X8_coin_b17 at hf
  obtain ⟨q631, hq631, hf⟩ := obind hf
  refine g_callV (gs' := [MO h0 h1 h2 h3 h4 h5 h6 h7 h8 q631.2, AI cy 107 h2 v2]) (rest := []) X dX8_coin_17 (c_X8_refused l D cy ad h0 h1 h2 h3 h4 h5 h6 h7 h8 v0 (b2i y0) hq631) mf_X8_refused mv_X8_refused lkm_X8_102 ⟨(Nat.le_of_ble_eq_true rfl), (Nat.le_of_ble_eq_true rfl), (Nat.le_of_ble_eq_true rfl), (Nat.le_of_ble_eq_true rfl)⟩ 0 0 rfl rfl rfl rfl [0, 1] _ (by decide : [0, 1].Perm (List.range 2)) rfl (by decide : [0, 1].Perm (List.range 2)) rfl (Nat.le_of_ble_eq_true rfl) rfl ?_
  refine g_if_eq X 25 dX8_coin_20 (by decide) (fun c633 => ?_) (fun c633 => ?_)
  · have hf := opos c633 hf
    refine g_aload_n X dX8_coin_25 0 rfl rfl ?_
    refine g_get X dX8_coin_26 ck_X8 0 0 3 rfl rfl (Nat.le_of_ble_eq_true rfl) lkf_X8_13 rfl ?_
    refine g_iload_n X dX8_coin_29 1 rfl rfl ?_
    obtain ⟨q632, hq632, hf⟩ := obind hf
    refine g_callS (gs' := [MO h0 h1 h2 h3 h4 h5 h6 h7 h8 q631.2, AI cy 107 h2 v2]) (rest := []) X dX8_coin_30 (c_X8_coinOf l D cy ad h2 v2 x1 hq632) mf_X8_coinOf ms_X8_coinOf lkm_X8_166 ⟨(Nat.le_of_ble_eq_true rfl), (Nat.le_of_ble_eq_true rfl), (Nat.le_of_ble_eq_true rfl), (Nat.le_of_ble_eq_true rfl)⟩ [1, 0] _ (by decide : [1, 0].Perm (List.range 2)) rfl (by decide : [1, 0].Perm (List.range 2)) rfl (Nat.le_of_ble_eq_true rfl) rfl ?_
    have hf := Option.some.inj hf
    subst hf
    exact g_iret X hr dX8_coin_33
  · have hf := oneg c633 hf
    refine g_iconst X (0 : Int32) dX8_coin_23 (by decide) ?_
    have hf := Option.some.inj hf
    subst hf
    exact g_iret X hr dX8_coin_24
def f_X8_coin (v0 : MOv) (v2 : Fn) (p1 : Int32) : Option (Int32 × MOv) :=
  (f_X8_isCoin v2 p1).bind (fun q630 => if (b2i q630) = 0 then f_X8_coin_b17 v0 v2 p1 true else f_X8_coin_b17 v0 v2 p1 false)
set_option maxRecDepth 100000 in
set_option maxHeartbeats 4000000 in
theorem c_X8_coin (l : Launch) (D : va_G) (cy : Nat → ClassId) (ad : (Nat → Nat) × (Nat → Nat)) (h0 h1 h2 h3 h4 h5 h6 h7 h8 : Nat) (v0 : MOv) (v2 : Fn) (p1 : Int32) {q : Int32 × MOv} (hf : f_X8_coin v0 v2 p1 = some q) : CM l yX8_coin cX8_coin 2 (some .int) rmX8_coin D cy ad [.ref h0, .int p1] [MO h0 h1 h2 h3 h4 h5 h6 h7 h8 v0, AI cy 107 h2 v2] (some (.int q.1)) [MO h0 h1 h2 h3 h4 h5 h6 h7 h8 q.2, AI cy 107 h2 v2] := by
  refine cm_of (lv0 := [(0, .ref h0), (1, .int p1)]) (by decide) (Nat.le_of_ble_eq_true rfl) rfl ?_
  intro p e s m args below meth c A X hr hn
  have X : gK p s m args meth c A D cy ad cX8_coin 2 RX8 := X
  unfold f_X8_coin at hf
  refine g_aload_n X dX8_coin_0 0 rfl rfl ?_
  refine g_aload_n X dX8_coin_1 0 rfl rfl ?_
  refine g_get X dX8_coin_2 ck_X8 0 0 3 rfl rfl (Nat.le_of_ble_eq_true rfl) lkf_X8_13 rfl ?_
  refine g_iload_n X dX8_coin_5 1 rfl rfl ?_
  obtain ⟨q630, hq630, hf⟩ := obind hf
  refine g_callS (gs' := [MO h0 h1 h2 h3 h4 h5 h6 h7 h8 v0, AI cy 107 h2 v2]) (rest := [.ref h0]) X dX8_coin_6 (c_X8_isCoin l D cy ad h2 v2 p1 hq630) mf_X8_isCoin ms_X8_isCoin lkm_X8_163 ⟨(Nat.le_of_ble_eq_true rfl), (Nat.le_of_ble_eq_true rfl), (Nat.le_of_ble_eq_true rfl), (Nat.le_of_ble_eq_true rfl)⟩ [1, 0] _ (by decide : [1, 0].Perm (List.range 2)) rfl (by decide : [1, 0].Perm (List.range 2)) rfl (Nat.le_of_ble_eq_true rfl) rfl ?_
  refine g_if_eq X 16 dX8_coin_9 (by decide) (fun c634 => ?_) (fun c634 => ?_)
  · have hf := opos c634 hf
    refine g_iconst X (1 : Int32) dX8_coin_16 (by decide) ?_
    exact j_X8_coin_b17 X hr v0 v2 p1 true hf
  · have hf := oneg c634 hf
    refine g_iconst X (0 : Int32) dX8_coin_12 (by decide) ?_
    refine g_goto X 17 dX8_coin_13 (by decide) ?_
    exact j_X8_coin_b17 X hr v0 v2 p1 false hf
abbrev rmX8_pans : Room := ({ frames := 5, cells := 0, slots := 0, locals := 116 } : Room)
def f_X8_pans (v0 : MOv) (v2 : Fn) : Option (Int32 × MOv) :=
  (f_X8_pansOf v2).bind (fun q637 => some (q637, ((0 : Int32), v0.2.1, v0.2.2.1, v0.2.2.2.1, v0.2.2.2.2.1, v0.2.2.2.2.2)))
set_option maxRecDepth 100000 in
set_option maxHeartbeats 4000000 in
theorem c_X8_pans (l : Launch) (D : va_G) (cy : Nat → ClassId) (ad : (Nat → Nat) × (Nat → Nat)) (h0 h1 h2 h3 h4 h5 h6 h7 h8 : Nat) (v0 : MOv) (v2 : Fn) {q : Int32 × MOv} (hf : f_X8_pans v0 v2 = some q) : CM l yX8_pans cX8_pans 1 (some .int) rmX8_pans D cy ad [.ref h0] [MO h0 h1 h2 h3 h4 h5 h6 h7 h8 v0, AI cy 107 h2 v2] (some (.int q.1)) [MO h0 h1 h2 h3 h4 h5 h6 h7 h8 q.2, AI cy 107 h2 v2] := by
  refine cm_of (lv0 := [(0, .ref h0)]) (by decide) (Nat.le_of_ble_eq_true rfl) rfl ?_
  intro p e s m args below meth c A X hr hn
  have X : gK p s m args meth c A D cy ad cX8_pans 1 RX8 := X
  unfold f_X8_pans at hf
  refine g_aload_n X dX8_pans_0 0 rfl rfl ?_
  refine g_iconst X (0 : Int32) dX8_pans_1 (by decide) ?_
  refine g_put (gs' := [MO h0 h1 h2 h3 h4 h5 h6 h7 h8 ((0 : Int32), v0.2.1, v0.2.2.1, v0.2.2.2.1, v0.2.2.2.2.1, v0.2.2.2.2.2), AI cy 107 h2 v2]) X dX8_pans_2 ck_X8 ct_X8 0 0 0 rfl rfl (Nat.le_of_ble_eq_true rfl) lkf_X8_39 rfl rfl rfl (Nat.le_of_ble_eq_true rfl) rfl ?_
  refine g_aload_n X dX8_pans_5 0 rfl rfl ?_
  refine g_get X dX8_pans_6 ck_X8 0 0 3 rfl rfl (Nat.le_of_ble_eq_true rfl) lkf_X8_13 rfl ?_
  obtain ⟨q637, hq637, hf⟩ := obind hf
  refine g_callS (gs' := [MO h0 h1 h2 h3 h4 h5 h6 h7 h8 ((0 : Int32), v0.2.1, v0.2.2.1, v0.2.2.2.1, v0.2.2.2.2.1, v0.2.2.2.2.2), AI cy 107 h2 v2]) (rest := []) X dX8_pans_9 (c_X8_pansOf l D cy ad h2 v2 hq637) mf_X8_pansOf ms_X8_pansOf lkm_X8_169 ⟨(Nat.le_of_ble_eq_true rfl), (Nat.le_of_ble_eq_true rfl), (Nat.le_of_ble_eq_true rfl), (Nat.le_of_ble_eq_true rfl)⟩ [1, 0] _ (by decide : [1, 0].Perm (List.range 2)) rfl (by decide : [1, 0].Perm (List.range 2)) rfl (Nat.le_of_ble_eq_true rfl) rfl ?_
  have hf := Option.some.inj hf
  subst hf
  exact g_iret X hr dX8_pans_12
abbrev rmX8_isLeft : Room := ({ frames := 4, cells := 0, slots := 0, locals := 94 } : Room)
def f_X8_isLeft_b27 (v0 : MOv) (v2 : Fn) (x1 : Int32) (y0 : Bool) : Option (Int32 × MOv) :=
  (f_X8_refused v0 (b2i y0)).bind (fun q648 => if (b2i q648.1) = 0 then (f_X8_fits v2 x1 (v2 (4 : Int32).toNatClampNeg)).bind (fun q649 => if (b2i q649) = 0 then some ((0 : Int32), q648.2) else some ((1 : Int32), q648.2)) else some ((0 : Int32), q648.2))
set_option maxRecDepth 100000 in
set_option maxHeartbeats 4000000 in
theorem j_X8_isLeft_b27 {p : Program} {l : Launch} {e : Env} {s : State} {m : MethodId} {args : Array Value} {below : List Frame} {meth : Method} {c : Code} {A : Nat → Prop} {D : va_G} {cy : Nat → ClassId} {ad : (Nat → Nat) × (Nat → Nat)} (X : gK p s m args meth c A D cy ad cX8_isLeft 2 RX8) (hr : meth.sig.returnType = (some .int)) {h0 h1 h2 h3 h4 h5 h6 h7 h8 : Nat} (v0 : MOv) (v2 : Fn) (x1 : Int32) (y0 : Bool) {q : Int32 × MOv} (hf : f_X8_isLeft_b27 v0 v2 x1 y0 = some q) : GW p l e rmX8_isLeft s m args below meth c A D 2 0 0 (MQ below (cmQ D cy A (some (.int q.1)) ([MO h0 h1 h2 h3 h4 h5 h6 h7 h8 q.2, AI cy 107 h2 v2] : List va_W).flatten) args s 0 0 A) 27 [(0, .ref h0), (1, .int x1)] [.int (b2i y0), .ref h0] [MO h0 h1 h2 h3 h4 h5 h6 h7 h8 v0, AI cy 107 h2 v2] := by
  unfold f_X8_isLeft_b27 at hf
  obtain ⟨q648, hq648, hf⟩ := obind hf
  refine g_callV (gs' := [MO h0 h1 h2 h3 h4 h5 h6 h7 h8 q648.2, AI cy 107 h2 v2]) (rest := []) X dX8_isLeft_27 (c_X8_refused l D cy ad h0 h1 h2 h3 h4 h5 h6 h7 h8 v0 (b2i y0) hq648) mf_X8_refused mv_X8_refused lkm_X8_102 ⟨(Nat.le_of_ble_eq_true rfl), (Nat.le_of_ble_eq_true rfl), (Nat.le_of_ble_eq_true rfl), (Nat.le_of_ble_eq_true rfl)⟩ 0 0 rfl rfl rfl rfl [0, 1] _ (by decide : [0, 1].Perm (List.range 2)) rfl (by decide : [0, 1].Perm (List.range 2)) rfl (Nat.le_of_ble_eq_true rfl) rfl ?_
  refine g_if_eq X 35 dX8_isLeft_30 (by decide) (fun c651 => ?_) (fun c651 => ?_)
  · have hf := opos c651 hf
    refine g_aload_n X dX8_isLeft_35 0 rfl rfl ?_
    refine g_get X dX8_isLeft_36 ck_X8 0 0 3 rfl rfl (Nat.le_of_ble_eq_true rfl) lkf_X8_13 rfl ?_
    refine g_iload_n X dX8_isLeft_39 1 rfl rfl ?_
    refine g_aload_n X dX8_isLeft_40 0 rfl rfl ?_
    refine g_get X dX8_isLeft_41 ck_X8 0 0 3 rfl rfl (Nat.le_of_ble_eq_true rfl) lkf_X8_13 rfl ?_
    refine g_iconst X (4 : Int32) dX8_isLeft_44 (by decide) ?_
    refine g_iaload X dX8_isLeft_45 1 0 rfl rfl (by decide) ?_
    obtain ⟨q649, hq649, hf⟩ := obind hf
    refine g_callS (gs' := [MO h0 h1 h2 h3 h4 h5 h6 h7 h8 q648.2, AI cy 107 h2 v2]) (rest := []) X dX8_isLeft_46 (c_X8_fits l D cy ad h2 v2 x1 (v2 (4 : Int32).toNatClampNeg) hq649) mf_X8_fits ms_X8_fits lkm_X8_75 ⟨(Nat.le_of_ble_eq_true rfl), (Nat.le_of_ble_eq_true rfl), (Nat.le_of_ble_eq_true rfl), (Nat.le_of_ble_eq_true rfl)⟩ [1, 0] _ (by decide : [1, 0].Perm (List.range 2)) rfl (by decide : [1, 0].Perm (List.range 2)) rfl (Nat.le_of_ble_eq_true rfl) rfl ?_
    refine g_if_eq X 56 dX8_isLeft_49 (by decide) (fun c650 => ?_) (fun c650 => ?_)
    · have hf := opos c650 hf
      refine g_iconst X (0 : Int32) dX8_isLeft_56 (by decide) ?_
      have hf := Option.some.inj hf
      subst hf
      exact g_iret X hr dX8_isLeft_57
    · have hf := oneg c650 hf
      refine g_iconst X (1 : Int32) dX8_isLeft_52 (by decide) ?_
      refine g_goto X 57 dX8_isLeft_53 (by decide) ?_
      have hf := Option.some.inj hf
      subst hf
      exact g_iret X hr dX8_isLeft_57
  · have hf := oneg c651 hf
    refine g_iconst X (0 : Int32) dX8_isLeft_33 (by decide) ?_
    have hf := Option.some.inj hf
    subst hf
    exact g_iret X hr dX8_isLeft_34
def f_X8_isLeft (v0 : MOv) (v2 : Fn) (p1 : Int32) : Option (Int32 × MOv) :=
  (f_X8_allOf (v2 (0 : Int32).toNatClampNeg)).bind (fun q646 => (f_X8_in (p1.toInt64) (0 : Int64) ((q646 - (1 : Int32)).toInt64)).bind (fun q647 => if (b2i q647) = 0 then f_X8_isLeft_b27 v0 v2 p1 true else f_X8_isLeft_b27 v0 v2 p1 false))
set_option maxRecDepth 100000 in
set_option maxHeartbeats 4000000 in
theorem c_X8_isLeft (l : Launch) (D : va_G) (cy : Nat → ClassId) (ad : (Nat → Nat) × (Nat → Nat)) (h0 h1 h2 h3 h4 h5 h6 h7 h8 : Nat) (v0 : MOv) (v2 : Fn) (p1 : Int32) {q : Int32 × MOv} (hf : f_X8_isLeft v0 v2 p1 = some q) : CM l yX8_isLeft cX8_isLeft 2 (some .int) rmX8_isLeft D cy ad [.ref h0, .int p1] [MO h0 h1 h2 h3 h4 h5 h6 h7 h8 v0, AI cy 107 h2 v2] (some (.int q.1)) [MO h0 h1 h2 h3 h4 h5 h6 h7 h8 q.2, AI cy 107 h2 v2] := by
  refine cm_of (lv0 := [(0, .ref h0), (1, .int p1)]) (by decide) (Nat.le_of_ble_eq_true rfl) rfl ?_
  intro p e s m args below meth c A X hr hn
  have X : gK p s m args meth c A D cy ad cX8_isLeft 2 RX8 := X
  unfold f_X8_isLeft at hf
  refine g_aload_n X dX8_isLeft_0 0 rfl rfl ?_
  refine g_iload_n X dX8_isLeft_1 1 rfl rfl ?_
  refine g_i2l X dX8_isLeft_2 ?_
  refine g_lconst X (0 : Int64) dX8_isLeft_3 (by decide) ?_
  refine g_aload_n X dX8_isLeft_4 0 rfl rfl ?_
  refine g_get X dX8_isLeft_5 ck_X8 0 0 3 rfl rfl (Nat.le_of_ble_eq_true rfl) lkf_X8_13 rfl ?_
  refine g_iconst X (0 : Int32) dX8_isLeft_8 (by decide) ?_
  refine g_iaload X dX8_isLeft_9 1 0 rfl rfl (by decide) ?_
  obtain ⟨q646, hq646, hf⟩ := obind hf
  refine g_callS (gs' := [MO h0 h1 h2 h3 h4 h5 h6 h7 h8 v0, AI cy 107 h2 v2]) (rest := [.long (0 : Int64), .long (p1.toInt64), .ref h0]) X dX8_isLeft_10 (c_X8_allOf l D cy ad (v2 (0 : Int32).toNatClampNeg) hq646) mf_X8_allOf ms_X8_allOf lkm_X8_72 ⟨(Nat.le_of_ble_eq_true rfl), (Nat.le_of_ble_eq_true rfl), (Nat.le_of_ble_eq_true rfl), (Nat.le_of_ble_eq_true rfl)⟩ [0, 1] _ (by decide : [0, 1].Perm (List.range 2)) rfl (by decide : [0, 1].Perm (List.range 2)) rfl (Nat.le_of_ble_eq_true rfl) rfl ?_
  refine g_iconst X (1 : Int32) dX8_isLeft_13 (by decide) ?_
  refine g_isub X dX8_isLeft_14 ?_
  refine g_i2l X dX8_isLeft_15 ?_
  obtain ⟨q647, hq647, hf⟩ := obind hf
  refine g_callS (gs' := [MO h0 h1 h2 h3 h4 h5 h6 h7 h8 v0, AI cy 107 h2 v2]) (rest := [.ref h0]) X dX8_isLeft_16 (c_X8_in l D cy ad (p1.toInt64) (0 : Int64) ((q646 - (1 : Int32)).toInt64) hq647) mf_X8_in ms_X8_in lkm_X8_43 ⟨(Nat.le_of_ble_eq_true rfl), (Nat.le_of_ble_eq_true rfl), (Nat.le_of_ble_eq_true rfl), (Nat.le_of_ble_eq_true rfl)⟩ [0, 1] _ (by decide : [0, 1].Perm (List.range 2)) rfl (by decide : [0, 1].Perm (List.range 2)) rfl (Nat.le_of_ble_eq_true rfl) rfl ?_
  refine g_if_eq X 26 dX8_isLeft_19 (by decide) (fun c652 => ?_) (fun c652 => ?_)
  · have hf := opos c652 hf
    refine g_iconst X (1 : Int32) dX8_isLeft_26 (by decide) ?_
    exact j_X8_isLeft_b27 X hr v0 v2 p1 true hf
  · have hf := oneg c652 hf
    refine g_iconst X (0 : Int32) dX8_isLeft_22 (by decide) ?_
    refine g_goto X 27 dX8_isLeft_23 (by decide) ?_
    exact j_X8_isLeft_b27 X hr v0 v2 p1 false hf
abbrev rmX8_weighing : Room := ({ frames := 5, cells := 0, slots := 0, locals := 117 } : Room)
def f_X8_weighing_b40 (v0 : MOv) (v2 : Fn) (x1 : Int32) (x2 : Int32) (y0 : Int32) : Option (Int32 × MOv) :=
  (f_X8_refused v0 y0).bind (fun q667 => if (b2i q667.1) = 0 then if x2 = (5 : Int32) then (f_X8_many v2 (x1 + (1 : Int32))).bind (fun q670 => some (q670, q667.2)) else (f_X8_at x1).bind (fun q668 => if (q668 + x2) < 0 ∨ 107 ≤ (q668 + x2).toNatClampNeg then none else some ((v2 (q668 + x2).toNatClampNeg), q667.2)) else some ((0 : Int32), q667.2))
set_option maxRecDepth 100000 in
set_option maxHeartbeats 4000000 in
theorem j_X8_weighing_b40 {p : Program} {l : Launch} {e : Env} {s : State} {m : MethodId} {args : Array Value} {below : List Frame} {meth : Method} {c : Code} {A : Nat → Prop} {D : va_G} {cy : Nat → ClassId} {ad : (Nat → Nat) × (Nat → Nat)} (X : gK p s m args meth c A D cy ad cX8_weighing 3 RX8) (hr : meth.sig.returnType = (some .int)) {h0 h1 h2 h3 h4 h5 h6 h7 h8 : Nat} (v0 : MOv) (v2 : Fn) (x1 : Int32) (x2 : Int32) (y0 : Int32) {q : Int32 × MOv} (hf : f_X8_weighing_b40 v0 v2 x1 x2 y0 = some q) : GW p l e rmX8_weighing s m args below meth c A D 3 0 0 (MQ below (cmQ D cy A (some (.int q.1)) ([MO h0 h1 h2 h3 h4 h5 h6 h7 h8 q.2, AI cy 107 h2 v2] : List va_W).flatten) args s 0 0 A) 40 [(0, .ref h0), (1, .int x1), (2, .int x2)] [.int y0, .ref h0] [MO h0 h1 h2 h3 h4 h5 h6 h7 h8 v0, AI cy 107 h2 v2] := by
  unfold f_X8_weighing_b40 at hf
  obtain ⟨q667, hq667, hf⟩ := obind hf
  refine g_callV (gs' := [MO h0 h1 h2 h3 h4 h5 h6 h7 h8 q667.2, AI cy 107 h2 v2]) (rest := []) X dX8_weighing_40 (c_X8_refused l D cy ad h0 h1 h2 h3 h4 h5 h6 h7 h8 v0 y0 hq667) mf_X8_refused mv_X8_refused lkm_X8_102 ⟨(Nat.le_of_ble_eq_true rfl), (Nat.le_of_ble_eq_true rfl), (Nat.le_of_ble_eq_true rfl), (Nat.le_of_ble_eq_true rfl)⟩ 0 0 rfl rfl rfl rfl [0, 1] _ (by decide : [0, 1].Perm (List.range 2)) rfl (by decide : [0, 1].Perm (List.range 2)) rfl (Nat.le_of_ble_eq_true rfl) rfl ?_
  refine g_if_eq X 48 dX8_weighing_43 (by decide) (fun c672 => ?_) (fun c672 => ?_)
  · have hf := opos c672 hf
    refine g_iload_n X dX8_weighing_48 2 rfl rfl ?_
    refine g_iconst X (5 : Int32) dX8_weighing_49 (by decide) ?_
    refine g_icmp_ne X 66 dX8_weighing_50 (by decide) (fun c671 => ?_) (fun c671 => ?_)
    · have hf := oneg c671 hf
      refine g_aload_n X dX8_weighing_66 0 rfl rfl ?_
      refine g_get X dX8_weighing_67 ck_X8 0 0 3 rfl rfl (Nat.le_of_ble_eq_true rfl) lkf_X8_13 rfl ?_
      refine g_iload_n X dX8_weighing_70 1 rfl rfl ?_
      obtain ⟨q668, hq668, hf⟩ := obind hf
      refine g_callS (gs' := [MO h0 h1 h2 h3 h4 h5 h6 h7 h8 q667.2, AI cy 107 h2 v2]) (rest := [.ref h2]) X dX8_weighing_71 (c_X8_at l D cy ad x1 hq668) mf_X8_at ms_X8_at lkm_X8_65 ⟨(Nat.le_of_ble_eq_true rfl), (Nat.le_of_ble_eq_true rfl), (Nat.le_of_ble_eq_true rfl), (Nat.le_of_ble_eq_true rfl)⟩ [0, 1] _ (by decide : [0, 1].Perm (List.range 2)) rfl (by decide : [0, 1].Perm (List.range 2)) rfl (Nat.le_of_ble_eq_true rfl) rfl ?_
      refine g_iload_n X dX8_weighing_74 2 rfl rfl ?_
      refine g_iadd X dX8_weighing_75 ?_
      obtain ⟨n669, hf⟩ := oguard hf
      refine g_iaload X dX8_weighing_76 1 0 rfl rfl n669 ?_
      have hf := Option.some.inj hf
      subst hf
      exact g_iret X hr dX8_weighing_77
    · have hf := opos c671 hf
      refine g_aload_n X dX8_weighing_53 0 rfl rfl ?_
      refine g_get X dX8_weighing_54 ck_X8 0 0 3 rfl rfl (Nat.le_of_ble_eq_true rfl) lkf_X8_13 rfl ?_
      refine g_iload_n X dX8_weighing_57 1 rfl rfl ?_
      refine g_iconst X (1 : Int32) dX8_weighing_58 (by decide) ?_
      refine g_iadd X dX8_weighing_59 ?_
      obtain ⟨q670, hq670, hf⟩ := obind hf
      refine g_callS (gs' := [MO h0 h1 h2 h3 h4 h5 h6 h7 h8 q667.2, AI cy 107 h2 v2]) (rest := []) X dX8_weighing_60 (c_X8_many l D cy ad h2 v2 (x1 + (1 : Int32)) hq670) mf_X8_many ms_X8_many lkm_X8_79 ⟨(Nat.le_of_ble_eq_true rfl), (Nat.le_of_ble_eq_true rfl), (Nat.le_of_ble_eq_true rfl), (Nat.le_of_ble_eq_true rfl)⟩ [1, 0] _ (by decide : [1, 0].Perm (List.range 2)) rfl (by decide : [1, 0].Perm (List.range 2)) rfl (Nat.le_of_ble_eq_true rfl) rfl ?_
      refine g_goto X 77 dX8_weighing_63 (by decide) ?_
      have hf := Option.some.inj hf
      subst hf
      exact g_iret X hr dX8_weighing_77
  · have hf := oneg c672 hf
    refine g_iconst X (0 : Int32) dX8_weighing_46 (by decide) ?_
    have hf := Option.some.inj hf
    subst hf
    exact g_iret X hr dX8_weighing_47
def f_X8_weighing (v0 : MOv) (v2 : Fn) (p1 : Int32) (p2 : Int32) : Option (Int32 × MOv) :=
  (f_X8_in (p1.toInt64) (0 : Int64) (((v2 (4 : Int32).toNatClampNeg) - (1 : Int32)).toInt64)).bind (fun q665 => if (b2i q665) = 0 then f_X8_weighing_b40 v0 v2 p1 p2 (1 : Int32) else (f_X8_in (p2.toInt64) (0 : Int64) (5 : Int64)).bind (fun q666 => if (b2i q666) = 0 then f_X8_weighing_b40 v0 v2 p1 p2 (2 : Int32) else f_X8_weighing_b40 v0 v2 p1 p2 (0 : Int32)))
set_option maxRecDepth 100000 in
set_option maxHeartbeats 4000000 in
theorem c_X8_weighing (l : Launch) (D : va_G) (cy : Nat → ClassId) (ad : (Nat → Nat) × (Nat → Nat)) (h0 h1 h2 h3 h4 h5 h6 h7 h8 : Nat) (v0 : MOv) (v2 : Fn) (p1 : Int32) (p2 : Int32) {q : Int32 × MOv} (hf : f_X8_weighing v0 v2 p1 p2 = some q) : CM l yX8_weighing cX8_weighing 3 (some .int) rmX8_weighing D cy ad [.ref h0, .int p1, .int p2] [MO h0 h1 h2 h3 h4 h5 h6 h7 h8 v0, AI cy 107 h2 v2] (some (.int q.1)) [MO h0 h1 h2 h3 h4 h5 h6 h7 h8 q.2, AI cy 107 h2 v2] := by
  refine cm_of (lv0 := [(0, .ref h0), (1, .int p1), (2, .int p2)]) (by decide) (Nat.le_of_ble_eq_true rfl) rfl ?_
  intro p e s m args below meth c A X hr hn
  have X : gK p s m args meth c A D cy ad cX8_weighing 3 RX8 := X
  unfold f_X8_weighing at hf
  refine g_aload_n X dX8_weighing_0 0 rfl rfl ?_
  refine g_iload_n X dX8_weighing_1 1 rfl rfl ?_
  refine g_i2l X dX8_weighing_2 ?_
  refine g_lconst X (0 : Int64) dX8_weighing_3 (by decide) ?_
  refine g_aload_n X dX8_weighing_4 0 rfl rfl ?_
  refine g_get X dX8_weighing_5 ck_X8 0 0 3 rfl rfl (Nat.le_of_ble_eq_true rfl) lkf_X8_13 rfl ?_
  refine g_iconst X (4 : Int32) dX8_weighing_8 (by decide) ?_
  refine g_iaload X dX8_weighing_9 1 0 rfl rfl (by decide) ?_
  refine g_iconst X (1 : Int32) dX8_weighing_10 (by decide) ?_
  refine g_isub X dX8_weighing_11 ?_
  refine g_i2l X dX8_weighing_12 ?_
  obtain ⟨q665, hq665, hf⟩ := obind hf
  refine g_callS (gs' := [MO h0 h1 h2 h3 h4 h5 h6 h7 h8 v0, AI cy 107 h2 v2]) (rest := [.ref h0]) X dX8_weighing_13 (c_X8_in l D cy ad (p1.toInt64) (0 : Int64) (((v2 (4 : Int32).toNatClampNeg) - (1 : Int32)).toInt64) hq665) mf_X8_in ms_X8_in lkm_X8_43 ⟨(Nat.le_of_ble_eq_true rfl), (Nat.le_of_ble_eq_true rfl), (Nat.le_of_ble_eq_true rfl), (Nat.le_of_ble_eq_true rfl)⟩ [0, 1] _ (by decide : [0, 1].Perm (List.range 2)) rfl (by decide : [0, 1].Perm (List.range 2)) rfl (Nat.le_of_ble_eq_true rfl) rfl ?_
  refine g_if_ne X 23 dX8_weighing_16 (by decide) (fun c674 => ?_) (fun c674 => ?_)
  · have hf := oneg c674 hf
    refine g_iload_n X dX8_weighing_23 2 rfl rfl ?_
    refine g_i2l X dX8_weighing_24 ?_
    refine g_lconst X (0 : Int64) dX8_weighing_25 (by decide) ?_
    refine g_ldc2 X lkl_X8_172 dX8_weighing_26 ?_
    obtain ⟨q666, hq666, hf⟩ := obind hf
    refine g_callS (gs' := [MO h0 h1 h2 h3 h4 h5 h6 h7 h8 v0, AI cy 107 h2 v2]) (rest := [.ref h0]) X dX8_weighing_29 (c_X8_in l D cy ad (p2.toInt64) (0 : Int64) (5 : Int64) hq666) mf_X8_in ms_X8_in lkm_X8_43 ⟨(Nat.le_of_ble_eq_true rfl), (Nat.le_of_ble_eq_true rfl), (Nat.le_of_ble_eq_true rfl), (Nat.le_of_ble_eq_true rfl)⟩ [0, 1] _ (by decide : [0, 1].Perm (List.range 2)) rfl (by decide : [0, 1].Perm (List.range 2)) rfl (Nat.le_of_ble_eq_true rfl) rfl ?_
    refine g_if_eq X 39 dX8_weighing_32 (by decide) (fun c673 => ?_) (fun c673 => ?_)
    · have hf := opos c673 hf
      refine g_iconst X (2 : Int32) dX8_weighing_39 (by decide) ?_
      exact j_X8_weighing_b40 X hr v0 v2 p1 p2 (2 : Int32) hf
    · have hf := oneg c673 hf
      refine g_iconst X (0 : Int32) dX8_weighing_35 (by decide) ?_
      refine g_goto X 40 dX8_weighing_36 (by decide) ?_
      exact j_X8_weighing_b40 X hr v0 v2 p1 p2 (0 : Int32) hf
  · have hf := opos c674 hf
    refine g_iconst X (1 : Int32) dX8_weighing_19 (by decide) ?_
    refine g_goto X 40 dX8_weighing_20 (by decide) ?_
    exact j_X8_weighing_b40 X hr v0 v2 p1 p2 (1 : Int32) hf
abbrev rmX8_remember : Room := ({ frames := 1, cells := 0, slots := 0, locals := 24 } : Room)
def f_X8_remember_b49 (v0 : MOv) (v2 : Fn) (v4 : Fn) : Option (MOv × Fn) :=
  (f_X8_copyState 107 1498 v2 v4 (0 : Int32) ((107 : Int32) * v0.2.2.1)).bind (fun q679 => some ((v0.1, v0.2.1, (v0.2.2.1 + (1 : Int32)), v0.2.2.2.1, v0.2.2.2.2.1, v0.2.2.2.2.2), q679))
set_option maxRecDepth 100000 in
set_option maxHeartbeats 4000000 in
theorem j_X8_remember_b49 {p : Program} {l : Launch} {e : Env} {s : State} {m : MethodId} {args : Array Value} {below : List Frame} {meth : Method} {c : Code} {A : Nat → Prop} {D : va_G} {cy : Nat → ClassId} {ad : (Nat → Nat) × (Nat → Nat)} (X : gK p s m args meth c A D cy ad cX8_remember 2 RX8) (hr : meth.sig.returnType = none) {h0 h1 h2 h3 h4 h5 h6 h7 h8 : Nat} (v0 : MOv) (v2 : Fn) (v4 : Fn) {q : MOv × Fn} (hf : f_X8_remember_b49 v0 v2 v4 = some q) : GW p l e rmX8_remember s m args below meth c A D 2 0 0 (MQ below (cmQ D cy A none ([MO h0 h1 h2 h3 h4 h5 h6 h7 h8 q.1, AI cy 107 h2 v2, AI cy 1498 h4 q.2] : List va_W).flatten) args s 0 0 A) 49 [(0, .ref h0)] [] [MO h0 h1 h2 h3 h4 h5 h6 h7 h8 v0, AI cy 107 h2 v2, AI cy 1498 h4 v4] := by
  unfold f_X8_remember_b49 at hf
  refine g_aload_n X dX8_remember_49 0 rfl rfl ?_
  refine g_get X dX8_remember_50 ck_X8 0 0 3 rfl rfl (Nat.le_of_ble_eq_true rfl) lkf_X8_13 rfl ?_
  refine g_iconst X (0 : Int32) dX8_remember_53 (by decide) ?_
  refine g_aload_n X dX8_remember_54 0 rfl rfl ?_
  refine g_get X dX8_remember_55 ck_X8 0 0 5 rfl rfl (Nat.le_of_ble_eq_true rfl) lkf_X8_19 rfl ?_
  refine g_bipush X (107 : Int32) dX8_remember_58 (by decide) ?_
  refine g_aload_n X dX8_remember_60 0 rfl rfl ?_
  refine g_get X dX8_remember_61 ck_X8 0 0 6 rfl rfl (Nat.le_of_ble_eq_true rfl) lkf_X8_158 rfl ?_
  refine g_imul X dX8_remember_64 ?_
  obtain ⟨q679, hq679, hf⟩ := obind hf
  refine g_callS (gs' := [MO h0 h1 h2 h3 h4 h5 h6 h7 h8 v0, AI cy 107 h2 v2, AI cy 1498 h4 q679]) (rest := []) X dX8_remember_65 (c_X8_copyState l D cy ad h2 h4 107 1498 v2 v4 (0 : Int32) ((107 : Int32) * v0.2.2.1) hq679) mf_X8_copyState ms_X8_copyState lkm_X8_154 ⟨(Nat.le_of_ble_eq_true rfl), (Nat.le_of_ble_eq_true rfl), (Nat.le_of_ble_eq_true rfl), (Nat.le_of_ble_eq_true rfl)⟩ [1, 2, 0] _ (by decide : [1, 2, 0].Perm (List.range 3)) rfl (by decide : [1, 2, 0].Perm (List.range 3)) rfl (Nat.le_of_ble_eq_true rfl) rfl ?_
  refine g_aload_n X dX8_remember_68 0 rfl rfl ?_
  refine g_dup X dX8_remember_69 rfl ?_
  refine g_get X dX8_remember_70 ck_X8 0 0 6 rfl rfl (Nat.le_of_ble_eq_true rfl) lkf_X8_158 rfl ?_
  refine g_iconst X (1 : Int32) dX8_remember_73 (by decide) ?_
  refine g_iadd X dX8_remember_74 ?_
  refine g_put (gs' := [MO h0 h1 h2 h3 h4 h5 h6 h7 h8 (v0.1, v0.2.1, (v0.2.2.1 + (1 : Int32)), v0.2.2.2.1, v0.2.2.2.2.1, v0.2.2.2.2.2), AI cy 107 h2 v2, AI cy 1498 h4 q679]) X dX8_remember_75 ck_X8 ct_X8 0 0 6 rfl rfl (Nat.le_of_ble_eq_true rfl) lkf_X8_158 rfl rfl rfl (Nat.le_of_ble_eq_true rfl) rfl ?_
  have hf := Option.some.inj hf
  subst hf
  exact g_vret X hr dX8_remember_78
def f_X8_remember_B11 (v0 : MOv) (v2 : Fn) (z : Int32 × Fn) : Option ((Int32 × Fn) ⊕ ((Fn))) :=
  if (1391 : Int32) ≤ z.1 then some (.inr ((z.2))) else if (z.1 + (107 : Int32)) < 0 ∨ 1498 ≤ (z.1 + (107 : Int32)).toNatClampNeg then none else if z.1 < 0 ∨ 1498 ≤ z.1.toNatClampNeg then none else some (.inl ((z.1 + (1 : Int32)), (upd z.2 z.1.toNatClampNeg (z.2 (z.1 + (107 : Int32)).toNatClampNeg))))
set_option maxRecDepth 100000 in
set_option maxHeartbeats 4000000 in
theorem b_X8_remember_B11 {p : Program} {l : Launch} {e : Env} {s : State} {m : MethodId} {args : Array Value} {below : List Frame} {meth : Method} {c : Code} {A : Nat → Prop} {D : va_G} {cy : Nat → ClassId} {ad : (Nat → Nat) × (Nat → Nat)} {Q : State → Prop} (X : gK p s m args meth c A D cy ad cX8_remember 2 RX8) (hr : meth.sig.returnType = none) {h0 h1 h2 h3 h4 h5 h6 h7 h8 : Nat} (v0 : MOv) (v2 : Fn) (z : Int32 × Fn) {q : (Int32 × Fn) ⊕ ((Fn))} (hf : f_X8_remember_B11 v0 v2 z = some q) (K1 : ∀ s' : Int32 × Fn, q = .inl s' → GW p l e rmX8_remember s m args below meth c A D 2 0 0 Q 11 [(0, .ref h0), (1, .int s'.1)] [] [MO h0 h1 h2 h3 h4 h5 h6 h7 h8 v0, AI cy 107 h2 v2, AI cy 1498 h4 s'.2]) (K2 : ∀ e' : Fn, q = .inr (e') → GW p l e rmX8_remember s m args below meth c A D 2 0 0 Q 39 [(0, .ref h0)] [] [MO h0 h1 h2 h3 h4 h5 h6 h7 h8 v0, AI cy 107 h2 v2, AI cy 1498 h4 e']) : GW p l e rmX8_remember s m args below meth c A D 2 0 0 Q 11 [(0, .ref h0), (1, .int z.1)] [] [MO h0 h1 h2 h3 h4 h5 h6 h7 h8 v0, AI cy 107 h2 v2, AI cy 1498 h4 z.2] := by
  unfold f_X8_remember_B11 at hf
  refine g_iload_n X dX8_remember_11 1 rfl rfl ?_
  refine g_sipush X (1391 : Int32) dX8_remember_12 (by decide) ?_
  refine g_icmp_ge X 39 dX8_remember_15 (by decide) (fun c682 => ?_) (fun c682 => ?_)
  · have hf := opos c682 hf
    refine g_sub [0] (lv' := [(0, .ref h0)]) rfl ?_
    exact K2 (z.2) (Option.some.inj hf).symm
  · have hf := oneg c682 hf
    refine g_aload_n X dX8_remember_18 0 rfl rfl ?_
    refine g_get X dX8_remember_19 ck_X8 0 0 5 rfl rfl (Nat.le_of_ble_eq_true rfl) lkf_X8_19 rfl ?_
    refine g_iload_n X dX8_remember_22 1 rfl rfl ?_
    refine g_aload_n X dX8_remember_23 0 rfl rfl ?_
    refine g_get X dX8_remember_24 ck_X8 0 0 5 rfl rfl (Nat.le_of_ble_eq_true rfl) lkf_X8_19 rfl ?_
    refine g_iload_n X dX8_remember_27 1 rfl rfl ?_
    refine g_bipush X (107 : Int32) dX8_remember_28 (by decide) ?_
    refine g_iadd X dX8_remember_30 ?_
    obtain ⟨n680, hf⟩ := oguard hf
    refine g_iaload X dX8_remember_31 2 0 rfl rfl n680 ?_
    obtain ⟨n681, hf⟩ := oguard hf
    refine g_iastore (gs' := [MO h0 h1 h2 h3 h4 h5 h6 h7 h8 v0, AI cy 107 h2 v2, AI cy 1498 h4 (upd z.2 z.1.toNatClampNeg (z.2 (z.1 + (107 : Int32)).toNatClampNeg))]) X dX8_remember_32 2 0 rfl rfl n681 rfl ?_
    refine g_iinc (lv' := [(0, .ref h0), (1, .int (z.1 + (1 : Int32)))]) (v := (1 : Int32)) X dX8_remember_33 1 rfl (by decide) [1, 0] (Nat.le_of_ble_eq_true rfl) rfl ?_
    refine g_goto X 11 dX8_remember_36 (by decide) ?_
    exact K1 ((z.1 + (1 : Int32)), (upd z.2 z.1.toNatClampNeg (z.2 (z.1 + (107 : Int32)).toNatClampNeg))) (Option.some.inj hf).symm
set_option maxRecDepth 100000 in
set_option maxHeartbeats 4000000 in
theorem w_X8_remember_B11 {p : Program} {l : Launch} {e : Env} {s : State} {m : MethodId} {args : Array Value} {below : List Frame} {meth : Method} {c : Code} {A : Nat → Prop} {D : va_G} {cy : Nat → ClassId} {ad : (Nat → Nat) × (Nat → Nat)} {Q : State → Prop} (X : gK p s m args meth c A D cy ad cX8_remember 2 RX8) (hr : meth.sig.returnType = none) {h0 h1 h2 h3 h4 h5 h6 h7 h8 : Nat} (v0 : MOv) (v2 : Fn) {n : Nat} {z : Int32 × Fn} {q : (Fn)} (hf : itl (f_X8_remember_B11 v0 v2) n z = some q) (K2 : GW p l e rmX8_remember s m args below meth c A D 2 0 0 Q 39 [(0, .ref h0)] [] [MO h0 h1 h2 h3 h4 h5 h6 h7 h8 v0, AI cy 107 h2 v2, AI cy 1498 h4 q]) : GW p l e rmX8_remember s m args below meth c A D 2 0 0 Q 11 [(0, .ref h0), (1, .int z.1)] [] [MO h0 h1 h2 h3 h4 h5 h6 h7 h8 v0, AI cy 107 h2 v2, AI cy 1498 h4 z.2] :=
  itl_ind (f := f_X8_remember_B11 v0 v2) (I := fun z => GW p l e rmX8_remember s m args below meth c A D 2 0 0 Q 11 [(0, .ref h0), (1, .int z.1)] [] [MO h0 h1 h2 h3 h4 h5 h6 h7 h8 v0, AI cy 107 h2 v2, AI cy 1498 h4 z.2]) (J := (fun q => GW p l e rmX8_remember s m args below meth c A D 2 0 0 Q 39 [(0, .ref h0)] [] [MO h0 h1 h2 h3 h4 h5 h6 h7 h8 v0, AI cy 107 h2 v2, AI cy 1498 h4 q])) (fun z x h k1 k2 => b_X8_remember_B11 X hr v0 v2 z h (fun s' hs => k1 s' hs) (fun e' he => k2 e' he)) n z q hf K2
def f_X8_remember (v0 : MOv) (v2 : Fn) (v4 : Fn) : Option (MOv × Fn) :=
  if v0.2.2.1 = (14 : Int32) then (itl (f_X8_remember_B11 v0 v2) FU ((0 : Int32), v4)).bind (fun q683 => f_X8_remember_b49 (v0.1, v0.2.1, (v0.2.2.1 - (1 : Int32)), v0.2.2.2.1, v0.2.2.2.2.1, v0.2.2.2.2.2) v2 q683) else f_X8_remember_b49 v0 v2 v4
set_option maxRecDepth 100000 in
set_option maxHeartbeats 4000000 in
theorem c_X8_remember (l : Launch) (D : va_G) (cy : Nat → ClassId) (ad : (Nat → Nat) × (Nat → Nat)) (h0 h1 h2 h3 h4 h5 h6 h7 h8 : Nat) (v0 : MOv) (v2 : Fn) (v4 : Fn) {q : MOv × Fn} (hf : f_X8_remember v0 v2 v4 = some q) : CM l yX8_remember cX8_remember 2 none rmX8_remember D cy ad [.ref h0] [MO h0 h1 h2 h3 h4 h5 h6 h7 h8 v0, AI cy 107 h2 v2, AI cy 1498 h4 v4] none [MO h0 h1 h2 h3 h4 h5 h6 h7 h8 q.1, AI cy 107 h2 v2, AI cy 1498 h4 q.2] := by
  refine cm_of (lv0 := [(0, .ref h0)]) (by decide) (Nat.le_of_ble_eq_true rfl) rfl ?_
  intro p e s m args below meth c A X hr hn
  have X : gK p s m args meth c A D cy ad cX8_remember 2 RX8 := X
  unfold f_X8_remember at hf
  refine g_aload_n X dX8_remember_0 0 rfl rfl ?_
  refine g_get X dX8_remember_1 ck_X8 0 0 6 rfl rfl (Nat.le_of_ble_eq_true rfl) lkf_X8_158 rfl ?_
  refine g_bipush X (14 : Int32) dX8_remember_4 (by decide) ?_
  refine g_icmp_ne X 49 dX8_remember_6 (by decide) (fun c684 => ?_) (fun c684 => ?_)
  · have hf := oneg c684 hf
    exact j_X8_remember_b49 X hr v0 v2 v4 hf
  · have hf := opos c684 hf
    refine g_iconst X (0 : Int32) dX8_remember_9 (by decide) ?_
    refine g_istore_n (lv' := [(0, .ref h0), (1, .int (0 : Int32))]) X dX8_remember_10 [1, 0] rfl (Nat.le_of_ble_eq_true rfl) rfl ?_
    obtain ⟨q683, hq683, hf⟩ := obind hf
    refine w_X8_remember_B11 X hr v0 v2 hq683 ?_
    refine g_aload_n X dX8_remember_39 0 rfl rfl ?_
    refine g_dup X dX8_remember_40 rfl ?_
    refine g_get X dX8_remember_41 ck_X8 0 0 6 rfl rfl (Nat.le_of_ble_eq_true rfl) lkf_X8_158 rfl ?_
    refine g_iconst X (1 : Int32) dX8_remember_44 (by decide) ?_
    refine g_isub X dX8_remember_45 ?_
    refine g_put (gs' := [MO h0 h1 h2 h3 h4 h5 h6 h7 h8 (v0.1, v0.2.1, (v0.2.2.1 - (1 : Int32)), v0.2.2.2.1, v0.2.2.2.2.1, v0.2.2.2.2.2), AI cy 107 h2 v2, AI cy 1498 h4 q683]) X dX8_remember_46 ck_X8 ct_X8 0 0 6 rfl rfl (Nat.le_of_ble_eq_true rfl) lkf_X8_158 rfl rfl rfl (Nat.le_of_ble_eq_true rfl) rfl ?_
    exact j_X8_remember_b49 X hr (v0.1, v0.2.1, (v0.2.2.1 - (1 : Int32)), v0.2.2.2.1, v0.2.2.2.2.1, v0.2.2.2.2.2) v2 q683 hf
abbrev rmX8_hide : Room := ({ frames := 2, cells := 0, slots := 0, locals := 45 } : Room)
def f_X8_hide_b33 (v0 : MOv) (v2 : Fn) (v4 : Fn) (x1 : Int32) (x2 : Int32) (y0 : Int32) : Option (Int32 × MOv × Fn × Fn) :=
  (f_X8_refused v0 y0).bind (fun q700 => if (b2i q700.1) = 0 then (f_X8_remember q700.2 v2 v4).bind (fun q701 => (f_X8_hideOn v2 x1 x2).bind (fun q702 => some (q702.1, q701.1, q702.2, q701.2))) else some ((0 : Int32), q700.2, v2, v4))
set_option maxRecDepth 100000 in
set_option maxHeartbeats 4000000 in
theorem j_X8_hide_b33 {p : Program} {l : Launch} {e : Env} {s : State} {m : MethodId} {args : Array Value} {below : List Frame} {meth : Method} {c : Code} {A : Nat → Prop} {D : va_G} {cy : Nat → ClassId} {ad : (Nat → Nat) × (Nat → Nat)} (X : gK p s m args meth c A D cy ad cX8_hide 3 RX8) (hr : meth.sig.returnType = (some .int)) {h0 h1 h2 h3 h4 h5 h6 h7 h8 : Nat} (v0 : MOv) (v2 : Fn) (v4 : Fn) (x1 : Int32) (x2 : Int32) (y0 : Int32) {q : Int32 × MOv × Fn × Fn} (hf : f_X8_hide_b33 v0 v2 v4 x1 x2 y0 = some q) : GW p l e rmX8_hide s m args below meth c A D 3 0 0 (MQ below (cmQ D cy A (some (.int q.1)) ([MO h0 h1 h2 h3 h4 h5 h6 h7 h8 q.2.1, AI cy 107 h2 q.2.2.1, AI cy 1498 h4 q.2.2.2] : List va_W).flatten) args s 0 0 A) 33 [(0, .ref h0), (1, .int x1), (2, .int x2)] [.int y0, .ref h0] [MO h0 h1 h2 h3 h4 h5 h6 h7 h8 v0, AI cy 107 h2 v2, AI cy 1498 h4 v4] := by
  unfold f_X8_hide_b33 at hf
  obtain ⟨q700, hq700, hf⟩ := obind hf
  refine g_callV (gs' := [MO h0 h1 h2 h3 h4 h5 h6 h7 h8 q700.2, AI cy 107 h2 v2, AI cy 1498 h4 v4]) (rest := []) X dX8_hide_33 (c_X8_refused l D cy ad h0 h1 h2 h3 h4 h5 h6 h7 h8 v0 y0 hq700) mf_X8_refused mv_X8_refused lkm_X8_102 ⟨(Nat.le_of_ble_eq_true rfl), (Nat.le_of_ble_eq_true rfl), (Nat.le_of_ble_eq_true rfl), (Nat.le_of_ble_eq_true rfl)⟩ 0 0 rfl rfl rfl rfl [0, 1, 2] _ (by decide : [0, 1, 2].Perm (List.range 3)) rfl (by decide : [0, 1, 2].Perm (List.range 3)) rfl (Nat.le_of_ble_eq_true rfl) rfl ?_
  refine g_if_eq X 41 dX8_hide_36 (by decide) (fun c703 => ?_) (fun c703 => ?_)
  · have hf := opos c703 hf
    refine g_aload_n X dX8_hide_41 0 rfl rfl ?_
    obtain ⟨q701, hq701, hf⟩ := obind hf
    refine g_callV (gs' := [MO h0 h1 h2 h3 h4 h5 h6 h7 h8 q701.1, AI cy 107 h2 v2, AI cy 1498 h4 q701.2]) (rest := []) X dX8_hide_42 (c_X8_remember l D cy ad h0 h1 h2 h3 h4 h5 h6 h7 h8 q700.2 v2 v4 hq701) mf_X8_remember mv_X8_remember lkm_X8_177 ⟨(Nat.le_of_ble_eq_true rfl), (Nat.le_of_ble_eq_true rfl), (Nat.le_of_ble_eq_true rfl), (Nat.le_of_ble_eq_true rfl)⟩ 0 0 rfl rfl rfl rfl [0, 1, 2] _ (by decide : [0, 1, 2].Perm (List.range 3)) rfl (by decide : [0, 1, 2].Perm (List.range 3)) rfl (Nat.le_of_ble_eq_true rfl) rfl ?_
    refine g_aload_n X dX8_hide_45 0 rfl rfl ?_
    refine g_get X dX8_hide_46 ck_X8 0 0 3 rfl rfl (Nat.le_of_ble_eq_true rfl) lkf_X8_13 rfl ?_
    refine g_iload_n X dX8_hide_49 1 rfl rfl ?_
    refine g_iload_n X dX8_hide_50 2 rfl rfl ?_
    obtain ⟨q702, hq702, hf⟩ := obind hf
    refine g_callS (gs' := [MO h0 h1 h2 h3 h4 h5 h6 h7 h8 q701.1, AI cy 107 h2 q702.2, AI cy 1498 h4 q701.2]) (rest := []) X dX8_hide_51 (c_X8_hideOn l D cy ad h2 v2 x1 x2 hq702) mf_X8_hideOn ms_X8_hideOn lkm_X8_141 ⟨(Nat.le_of_ble_eq_true rfl), (Nat.le_of_ble_eq_true rfl), (Nat.le_of_ble_eq_true rfl), (Nat.le_of_ble_eq_true rfl)⟩ [1, 0, 2] _ (by decide : [1, 0, 2].Perm (List.range 3)) rfl (by decide : [1, 0, 2].Perm (List.range 3)) rfl (Nat.le_of_ble_eq_true rfl) rfl ?_
    have hf := Option.some.inj hf
    subst hf
    exact g_iret X hr dX8_hide_54
  · have hf := oneg c703 hf
    refine g_iconst X (0 : Int32) dX8_hide_39 (by decide) ?_
    have hf := Option.some.inj hf
    subst hf
    exact g_iret X hr dX8_hide_40
def f_X8_hide (v0 : MOv) (v2 : Fn) (v4 : Fn) (p1 : Int32) (p2 : Int32) : Option (Int32 × MOv × Fn × Fn) :=
  (f_X8_isCoins p1).bind (fun q697 => if (b2i q697) = 0 then f_X8_hide_b33 v0 v2 v4 p1 p2 (2 : Int32) else (f_X8_allOf p1).bind (fun q698 => (f_X8_in (p2.toInt64) (0 : Int64) ((q698 - (1 : Int32)).toInt64)).bind (fun q699 => if (b2i q699) = 0 then f_X8_hide_b33 v0 v2 v4 p1 p2 (1 : Int32) else f_X8_hide_b33 v0 v2 v4 p1 p2 (0 : Int32))))
set_option maxRecDepth 100000 in
set_option maxHeartbeats 4000000 in
theorem c_X8_hide (l : Launch) (D : va_G) (cy : Nat → ClassId) (ad : (Nat → Nat) × (Nat → Nat)) (h0 h1 h2 h3 h4 h5 h6 h7 h8 : Nat) (v0 : MOv) (v2 : Fn) (v4 : Fn) (p1 : Int32) (p2 : Int32) {q : Int32 × MOv × Fn × Fn} (hf : f_X8_hide v0 v2 v4 p1 p2 = some q) : CM l yX8_hide cX8_hide 3 (some .int) rmX8_hide D cy ad [.ref h0, .int p1, .int p2] [MO h0 h1 h2 h3 h4 h5 h6 h7 h8 v0, AI cy 107 h2 v2, AI cy 1498 h4 v4] (some (.int q.1)) [MO h0 h1 h2 h3 h4 h5 h6 h7 h8 q.2.1, AI cy 107 h2 q.2.2.1, AI cy 1498 h4 q.2.2.2] := by
  refine cm_of (lv0 := [(0, .ref h0), (1, .int p1), (2, .int p2)]) (by decide) (Nat.le_of_ble_eq_true rfl) rfl ?_
  intro p e s m args below meth c A X hr hn
  have X : gK p s m args meth c A D cy ad cX8_hide 3 RX8 := X
  unfold f_X8_hide at hf
  refine g_aload_n X dX8_hide_0 0 rfl rfl ?_
  refine g_iload_n X dX8_hide_1 1 rfl rfl ?_
  obtain ⟨q697, hq697, hf⟩ := obind hf
  refine g_callS (gs' := [MO h0 h1 h2 h3 h4 h5 h6 h7 h8 v0, AI cy 107 h2 v2, AI cy 1498 h4 v4]) (rest := [.ref h0]) X dX8_hide_2 (c_X8_isCoins l D cy ad p1 hq697) mf_X8_isCoins ms_X8_isCoins lkm_X8_174 ⟨(Nat.le_of_ble_eq_true rfl), (Nat.le_of_ble_eq_true rfl), (Nat.le_of_ble_eq_true rfl), (Nat.le_of_ble_eq_true rfl)⟩ [0, 1, 2] _ (by decide : [0, 1, 2].Perm (List.range 3)) rfl (by decide : [0, 1, 2].Perm (List.range 3)) rfl (Nat.le_of_ble_eq_true rfl) rfl ?_
  refine g_if_ne X 12 dX8_hide_5 (by decide) (fun c705 => ?_) (fun c705 => ?_)
  · have hf := oneg c705 hf
    refine g_iload_n X dX8_hide_12 2 rfl rfl ?_
    refine g_i2l X dX8_hide_13 ?_
    refine g_lconst X (0 : Int64) dX8_hide_14 (by decide) ?_
    refine g_iload_n X dX8_hide_15 1 rfl rfl ?_
    obtain ⟨q698, hq698, hf⟩ := obind hf
    refine g_callS (gs' := [MO h0 h1 h2 h3 h4 h5 h6 h7 h8 v0, AI cy 107 h2 v2, AI cy 1498 h4 v4]) (rest := [.long (0 : Int64), .long (p2.toInt64), .ref h0]) X dX8_hide_16 (c_X8_allOf l D cy ad p1 hq698) mf_X8_allOf ms_X8_allOf lkm_X8_72 ⟨(Nat.le_of_ble_eq_true rfl), (Nat.le_of_ble_eq_true rfl), (Nat.le_of_ble_eq_true rfl), (Nat.le_of_ble_eq_true rfl)⟩ [0, 1, 2] _ (by decide : [0, 1, 2].Perm (List.range 3)) rfl (by decide : [0, 1, 2].Perm (List.range 3)) rfl (Nat.le_of_ble_eq_true rfl) rfl ?_
    refine g_iconst X (1 : Int32) dX8_hide_19 (by decide) ?_
    refine g_isub X dX8_hide_20 ?_
    refine g_i2l X dX8_hide_21 ?_
    obtain ⟨q699, hq699, hf⟩ := obind hf
    refine g_callS (gs' := [MO h0 h1 h2 h3 h4 h5 h6 h7 h8 v0, AI cy 107 h2 v2, AI cy 1498 h4 v4]) (rest := [.ref h0]) X dX8_hide_22 (c_X8_in l D cy ad (p2.toInt64) (0 : Int64) ((q698 - (1 : Int32)).toInt64) hq699) mf_X8_in ms_X8_in lkm_X8_43 ⟨(Nat.le_of_ble_eq_true rfl), (Nat.le_of_ble_eq_true rfl), (Nat.le_of_ble_eq_true rfl), (Nat.le_of_ble_eq_true rfl)⟩ [0, 1, 2] _ (by decide : [0, 1, 2].Perm (List.range 3)) rfl (by decide : [0, 1, 2].Perm (List.range 3)) rfl (Nat.le_of_ble_eq_true rfl) rfl ?_
    refine g_if_eq X 32 dX8_hide_25 (by decide) (fun c704 => ?_) (fun c704 => ?_)
    · have hf := opos c704 hf
      refine g_iconst X (1 : Int32) dX8_hide_32 (by decide) ?_
      exact j_X8_hide_b33 X hr v0 v2 v4 p1 p2 (1 : Int32) hf
    · have hf := oneg c704 hf
      refine g_iconst X (0 : Int32) dX8_hide_28 (by decide) ?_
      refine g_goto X 33 dX8_hide_29 (by decide) ?_
      exact j_X8_hide_b33 X hr v0 v2 v4 p1 p2 (0 : Int32) hf
  · have hf := opos c705 hf
    refine g_iconst X (2 : Int32) dX8_hide_8 (by decide) ?_
    refine g_goto X 33 dX8_hide_9 (by decide) ?_
    exact j_X8_hide_b33 X hr v0 v2 v4 p1 p2 (2 : Int32) hf
abbrev rmX8_arms : Room := ({ frames := 2, cells := 0, slots := 0, locals := 46 } : Room)
def f_X8_arms_b14 (v0 : MOv) (v2 : Fn) (v4 : Fn) (x1 : Int32) (x2 : Int32) (y0 : Bool) : Option (Int32 × MOv × Fn × Fn) :=
  (f_X8_refused v0 (b2i y0)).bind (fun q715 => if (b2i q715.1) = 0 then (f_X8_remember q715.2 v2 v4).bind (fun q716 => (f_X8_armsOn v2 x1 x2).bind (fun q717 => some (q717.1, q716.1, q717.2, q716.2))) else some ((0 : Int32), q715.2, v2, v4))
set_option maxRecDepth 100000 in
set_option maxHeartbeats 4000000 in
theorem j_X8_arms_b14 {p : Program} {l : Launch} {e : Env} {s : State} {m : MethodId} {args : Array Value} {below : List Frame} {meth : Method} {c : Code} {A : Nat → Prop} {D : va_G} {cy : Nat → ClassId} {ad : (Nat → Nat) × (Nat → Nat)} (X : gK p s m args meth c A D cy ad cX8_arms 3 RX8) (hr : meth.sig.returnType = (some .int)) {h0 h1 h2 h3 h4 h5 h6 h7 h8 : Nat} (v0 : MOv) (v2 : Fn) (v4 : Fn) (x1 : Int32) (x2 : Int32) (y0 : Bool) {q : Int32 × MOv × Fn × Fn} (hf : f_X8_arms_b14 v0 v2 v4 x1 x2 y0 = some q) : GW p l e rmX8_arms s m args below meth c A D 3 0 0 (MQ below (cmQ D cy A (some (.int q.1)) ([MO h0 h1 h2 h3 h4 h5 h6 h7 h8 q.2.1, AI cy 107 h2 q.2.2.1, AI cy 1498 h4 q.2.2.2] : List va_W).flatten) args s 0 0 A) 14 [(0, .ref h0), (1, .int x1), (2, .int x2)] [.int (b2i y0), .ref h0] [MO h0 h1 h2 h3 h4 h5 h6 h7 h8 v0, AI cy 107 h2 v2, AI cy 1498 h4 v4] := by
  unfold f_X8_arms_b14 at hf
  obtain ⟨q715, hq715, hf⟩ := obind hf
  refine g_callV (gs' := [MO h0 h1 h2 h3 h4 h5 h6 h7 h8 q715.2, AI cy 107 h2 v2, AI cy 1498 h4 v4]) (rest := []) X dX8_arms_14 (c_X8_refused l D cy ad h0 h1 h2 h3 h4 h5 h6 h7 h8 v0 (b2i y0) hq715) mf_X8_refused mv_X8_refused lkm_X8_102 ⟨(Nat.le_of_ble_eq_true rfl), (Nat.le_of_ble_eq_true rfl), (Nat.le_of_ble_eq_true rfl), (Nat.le_of_ble_eq_true rfl)⟩ 0 0 rfl rfl rfl rfl [0, 1, 2] _ (by decide : [0, 1, 2].Perm (List.range 3)) rfl (by decide : [0, 1, 2].Perm (List.range 3)) rfl (Nat.le_of_ble_eq_true rfl) rfl ?_
  refine g_if_eq X 22 dX8_arms_17 (by decide) (fun c718 => ?_) (fun c718 => ?_)
  · have hf := opos c718 hf
    refine g_aload_n X dX8_arms_22 0 rfl rfl ?_
    obtain ⟨q716, hq716, hf⟩ := obind hf
    refine g_callV (gs' := [MO h0 h1 h2 h3 h4 h5 h6 h7 h8 q716.1, AI cy 107 h2 v2, AI cy 1498 h4 q716.2]) (rest := []) X dX8_arms_23 (c_X8_remember l D cy ad h0 h1 h2 h3 h4 h5 h6 h7 h8 q715.2 v2 v4 hq716) mf_X8_remember mv_X8_remember lkm_X8_177 ⟨(Nat.le_of_ble_eq_true rfl), (Nat.le_of_ble_eq_true rfl), (Nat.le_of_ble_eq_true rfl), (Nat.le_of_ble_eq_true rfl)⟩ 0 0 rfl rfl rfl rfl [0, 1, 2] _ (by decide : [0, 1, 2].Perm (List.range 3)) rfl (by decide : [0, 1, 2].Perm (List.range 3)) rfl (Nat.le_of_ble_eq_true rfl) rfl ?_
    refine g_aload_n X dX8_arms_26 0 rfl rfl ?_
    refine g_get X dX8_arms_27 ck_X8 0 0 3 rfl rfl (Nat.le_of_ble_eq_true rfl) lkf_X8_13 rfl ?_
    refine g_iload_n X dX8_arms_30 1 rfl rfl ?_
    refine g_iload_n X dX8_arms_31 2 rfl rfl ?_
    obtain ⟨q717, hq717, hf⟩ := obind hf
    refine g_callS (gs' := [MO h0 h1 h2 h3 h4 h5 h6 h7 h8 q716.1, AI cy 107 h2 q717.2, AI cy 1498 h4 q716.2]) (rest := []) X dX8_arms_32 (c_X8_armsOn l D cy ad h2 v2 x1 x2 hq717) mf_X8_armsOn ms_X8_armsOn lkm_X8_138 ⟨(Nat.le_of_ble_eq_true rfl), (Nat.le_of_ble_eq_true rfl), (Nat.le_of_ble_eq_true rfl), (Nat.le_of_ble_eq_true rfl)⟩ [1, 0, 2] _ (by decide : [1, 0, 2].Perm (List.range 3)) rfl (by decide : [1, 0, 2].Perm (List.range 3)) rfl (Nat.le_of_ble_eq_true rfl) rfl ?_
    have hf := Option.some.inj hf
    subst hf
    exact g_iret X hr dX8_arms_35
  · have hf := oneg c718 hf
    refine g_iconst X (0 : Int32) dX8_arms_20 (by decide) ?_
    have hf := Option.some.inj hf
    subst hf
    exact g_iret X hr dX8_arms_21
def f_X8_arms (v0 : MOv) (v2 : Fn) (v4 : Fn) (p1 : Int32) (p2 : Int32) : Option (Int32 × MOv × Fn × Fn) :=
  (f_X8_isArms p1 p2).bind (fun q714 => if (b2i q714) = 0 then f_X8_arms_b14 v0 v2 v4 p1 p2 true else f_X8_arms_b14 v0 v2 v4 p1 p2 false)
set_option maxRecDepth 100000 in
set_option maxHeartbeats 4000000 in
theorem c_X8_arms (l : Launch) (D : va_G) (cy : Nat → ClassId) (ad : (Nat → Nat) × (Nat → Nat)) (h0 h1 h2 h3 h4 h5 h6 h7 h8 : Nat) (v0 : MOv) (v2 : Fn) (v4 : Fn) (p1 : Int32) (p2 : Int32) {q : Int32 × MOv × Fn × Fn} (hf : f_X8_arms v0 v2 v4 p1 p2 = some q) : CM l yX8_arms cX8_arms 3 (some .int) rmX8_arms D cy ad [.ref h0, .int p1, .int p2] [MO h0 h1 h2 h3 h4 h5 h6 h7 h8 v0, AI cy 107 h2 v2, AI cy 1498 h4 v4] (some (.int q.1)) [MO h0 h1 h2 h3 h4 h5 h6 h7 h8 q.2.1, AI cy 107 h2 q.2.2.1, AI cy 1498 h4 q.2.2.2] := by
  refine cm_of (lv0 := [(0, .ref h0), (1, .int p1), (2, .int p2)]) (by decide) (Nat.le_of_ble_eq_true rfl) rfl ?_
  intro p e s m args below meth c A X hr hn
  have X : gK p s m args meth c A D cy ad cX8_arms 3 RX8 := X
  unfold f_X8_arms at hf
  refine g_aload_n X dX8_arms_0 0 rfl rfl ?_
  refine g_iload_n X dX8_arms_1 1 rfl rfl ?_
  refine g_iload_n X dX8_arms_2 2 rfl rfl ?_
  obtain ⟨q714, hq714, hf⟩ := obind hf
  refine g_callS (gs' := [MO h0 h1 h2 h3 h4 h5 h6 h7 h8 v0, AI cy 107 h2 v2, AI cy 1498 h4 v4]) (rest := [.ref h0]) X dX8_arms_3 (c_X8_isArms l D cy ad p1 p2 hq714) mf_X8_isArms ms_X8_isArms lkm_X8_180 ⟨(Nat.le_of_ble_eq_true rfl), (Nat.le_of_ble_eq_true rfl), (Nat.le_of_ble_eq_true rfl), (Nat.le_of_ble_eq_true rfl)⟩ [0, 1, 2] _ (by decide : [0, 1, 2].Perm (List.range 3)) rfl (by decide : [0, 1, 2].Perm (List.range 3)) rfl (Nat.le_of_ble_eq_true rfl) rfl ?_
  refine g_if_eq X 13 dX8_arms_6 (by decide) (fun c719 => ?_) (fun c719 => ?_)
  · have hf := opos c719 hf
    refine g_iconst X (1 : Int32) dX8_arms_13 (by decide) ?_
    exact j_X8_arms_b14 X hr v0 v2 v4 p1 p2 true hf
  · have hf := oneg c719 hf
    refine g_iconst X (0 : Int32) dX8_arms_9 (by decide) ?_
    refine g_goto X 14 dX8_arms_10 (by decide) ?_
    exact j_X8_arms_b14 X hr v0 v2 v4 p1 p2 false hf
abbrev rmX8_weigh : Room := ({ frames := 4, cells := 0, slots := 0, locals := 93 } : Room)
def f_X8_weigh_b34 (v0 : MOv) (v2 : Fn) (v4 : Fn) (x1 : Int32) (x2 : Int32) (y0 : Int32) : Option (Int32 × MOv × Fn × Fn) :=
  (f_X8_refused v0 y0).bind (fun q732 => if (b2i q732.1) = 0 then (f_X8_remember q732.2 v2 v4).bind (fun q733 => (f_X8_weighOn v2 x1 x2).bind (fun q734 => some (q734.1, q733.1, q734.2, q733.2))) else some ((0 : Int32), q732.2, v2, v4))
set_option maxRecDepth 100000 in
set_option maxHeartbeats 4000000 in
theorem j_X8_weigh_b34 {p : Program} {l : Launch} {e : Env} {s : State} {m : MethodId} {args : Array Value} {below : List Frame} {meth : Method} {c : Code} {A : Nat → Prop} {D : va_G} {cy : Nat → ClassId} {ad : (Nat → Nat) × (Nat → Nat)} (X : gK p s m args meth c A D cy ad cX8_weigh 3 RX8) (hr : meth.sig.returnType = (some .int)) {h0 h1 h2 h3 h4 h5 h6 h7 h8 : Nat} (v0 : MOv) (v2 : Fn) (v4 : Fn) (x1 : Int32) (x2 : Int32) (y0 : Int32) {q : Int32 × MOv × Fn × Fn} (hf : f_X8_weigh_b34 v0 v2 v4 x1 x2 y0 = some q) : GW p l e rmX8_weigh s m args below meth c A D 3 0 0 (MQ below (cmQ D cy A (some (.int q.1)) ([MO h0 h1 h2 h3 h4 h5 h6 h7 h8 q.2.1, AI cy 107 h2 q.2.2.1, AI cy 1498 h4 q.2.2.2] : List va_W).flatten) args s 0 0 A) 34 [(0, .ref h0), (1, .int x1), (2, .int x2)] [.int y0, .ref h0] [MO h0 h1 h2 h3 h4 h5 h6 h7 h8 v0, AI cy 107 h2 v2, AI cy 1498 h4 v4] := by
  unfold f_X8_weigh_b34 at hf
  obtain ⟨q732, hq732, hf⟩ := obind hf
  refine g_callV (gs' := [MO h0 h1 h2 h3 h4 h5 h6 h7 h8 q732.2, AI cy 107 h2 v2, AI cy 1498 h4 v4]) (rest := []) X dX8_weigh_34 (c_X8_refused l D cy ad h0 h1 h2 h3 h4 h5 h6 h7 h8 v0 y0 hq732) mf_X8_refused mv_X8_refused lkm_X8_102 ⟨(Nat.le_of_ble_eq_true rfl), (Nat.le_of_ble_eq_true rfl), (Nat.le_of_ble_eq_true rfl), (Nat.le_of_ble_eq_true rfl)⟩ 0 0 rfl rfl rfl rfl [0, 1, 2] _ (by decide : [0, 1, 2].Perm (List.range 3)) rfl (by decide : [0, 1, 2].Perm (List.range 3)) rfl (Nat.le_of_ble_eq_true rfl) rfl ?_
  refine g_if_eq X 42 dX8_weigh_37 (by decide) (fun c735 => ?_) (fun c735 => ?_)
  · have hf := opos c735 hf
    refine g_aload_n X dX8_weigh_42 0 rfl rfl ?_
    obtain ⟨q733, hq733, hf⟩ := obind hf
    refine g_callV (gs' := [MO h0 h1 h2 h3 h4 h5 h6 h7 h8 q733.1, AI cy 107 h2 v2, AI cy 1498 h4 q733.2]) (rest := []) X dX8_weigh_43 (c_X8_remember l D cy ad h0 h1 h2 h3 h4 h5 h6 h7 h8 q732.2 v2 v4 hq733) mf_X8_remember mv_X8_remember lkm_X8_177 ⟨(Nat.le_of_ble_eq_true rfl), (Nat.le_of_ble_eq_true rfl), (Nat.le_of_ble_eq_true rfl), (Nat.le_of_ble_eq_true rfl)⟩ 0 0 rfl rfl rfl rfl [0, 1, 2] _ (by decide : [0, 1, 2].Perm (List.range 3)) rfl (by decide : [0, 1, 2].Perm (List.range 3)) rfl (Nat.le_of_ble_eq_true rfl) rfl ?_
    refine g_aload_n X dX8_weigh_46 0 rfl rfl ?_
    refine g_get X dX8_weigh_47 ck_X8 0 0 3 rfl rfl (Nat.le_of_ble_eq_true rfl) lkf_X8_13 rfl ?_
    refine g_iload_n X dX8_weigh_50 1 rfl rfl ?_
    refine g_iload_n X dX8_weigh_51 2 rfl rfl ?_
    obtain ⟨q734, hq734, hf⟩ := obind hf
    refine g_callS (gs' := [MO h0 h1 h2 h3 h4 h5 h6 h7 h8 q733.1, AI cy 107 h2 q734.2, AI cy 1498 h4 q733.2]) (rest := []) X dX8_weigh_52 (c_X8_weighOn l D cy ad h2 v2 x1 x2 hq734) mf_X8_weighOn ms_X8_weighOn lkm_X8_126 ⟨(Nat.le_of_ble_eq_true rfl), (Nat.le_of_ble_eq_true rfl), (Nat.le_of_ble_eq_true rfl), (Nat.le_of_ble_eq_true rfl)⟩ [1, 0, 2] _ (by decide : [1, 0, 2].Perm (List.range 3)) rfl (by decide : [1, 0, 2].Perm (List.range 3)) rfl (Nat.le_of_ble_eq_true rfl) rfl ?_
    have hf := Option.some.inj hf
    subst hf
    exact g_iret X hr dX8_weigh_55
  · have hf := oneg c735 hf
    refine g_iconst X (0 : Int32) dX8_weigh_40 (by decide) ?_
    have hf := Option.some.inj hf
    subst hf
    exact g_iret X hr dX8_weigh_41
def f_X8_weigh (v0 : MOv) (v2 : Fn) (v4 : Fn) (p1 : Int32) (p2 : Int32) : Option (Int32 × MOv × Fn × Fn) :=
  (f_X8_isWeighing v2 p1 p2).bind (fun q730 => if (b2i q730) = 0 then f_X8_weigh_b34 v0 v2 v4 p1 p2 (1 : Int32) else (f_X8_canWeigh v2 p1 p2).bind (fun q731 => if (b2i q731) = 0 then f_X8_weigh_b34 v0 v2 v4 p1 p2 (2 : Int32) else f_X8_weigh_b34 v0 v2 v4 p1 p2 (0 : Int32)))
set_option maxRecDepth 100000 in
set_option maxHeartbeats 4000000 in
theorem c_X8_weigh (l : Launch) (D : va_G) (cy : Nat → ClassId) (ad : (Nat → Nat) × (Nat → Nat)) (h0 h1 h2 h3 h4 h5 h6 h7 h8 : Nat) (v0 : MOv) (v2 : Fn) (v4 : Fn) (p1 : Int32) (p2 : Int32) {q : Int32 × MOv × Fn × Fn} (hf : f_X8_weigh v0 v2 v4 p1 p2 = some q) : CM l yX8_weigh cX8_weigh 3 (some .int) rmX8_weigh D cy ad [.ref h0, .int p1, .int p2] [MO h0 h1 h2 h3 h4 h5 h6 h7 h8 v0, AI cy 107 h2 v2, AI cy 1498 h4 v4] (some (.int q.1)) [MO h0 h1 h2 h3 h4 h5 h6 h7 h8 q.2.1, AI cy 107 h2 q.2.2.1, AI cy 1498 h4 q.2.2.2] := by
  refine cm_of (lv0 := [(0, .ref h0), (1, .int p1), (2, .int p2)]) (by decide) (Nat.le_of_ble_eq_true rfl) rfl ?_
  intro p e s m args below meth c A X hr hn
  have X : gK p s m args meth c A D cy ad cX8_weigh 3 RX8 := X
  unfold f_X8_weigh at hf
  refine g_aload_n X dX8_weigh_0 0 rfl rfl ?_
  refine g_aload_n X dX8_weigh_1 0 rfl rfl ?_
  refine g_get X dX8_weigh_2 ck_X8 0 0 3 rfl rfl (Nat.le_of_ble_eq_true rfl) lkf_X8_13 rfl ?_
  refine g_iload_n X dX8_weigh_5 1 rfl rfl ?_
  refine g_iload_n X dX8_weigh_6 2 rfl rfl ?_
  obtain ⟨q730, hq730, hf⟩ := obind hf
  refine g_callS (gs' := [MO h0 h1 h2 h3 h4 h5 h6 h7 h8 v0, AI cy 107 h2 v2, AI cy 1498 h4 v4]) (rest := [.ref h0]) X dX8_weigh_7 (c_X8_isWeighing l D cy ad h2 v2 p1 p2 hq730) mf_X8_isWeighing ms_X8_isWeighing lkm_X8_90 ⟨(Nat.le_of_ble_eq_true rfl), (Nat.le_of_ble_eq_true rfl), (Nat.le_of_ble_eq_true rfl), (Nat.le_of_ble_eq_true rfl)⟩ [1, 0, 2] _ (by decide : [1, 0, 2].Perm (List.range 3)) rfl (by decide : [1, 0, 2].Perm (List.range 3)) rfl (Nat.le_of_ble_eq_true rfl) rfl ?_
  refine g_if_ne X 17 dX8_weigh_10 (by decide) (fun c737 => ?_) (fun c737 => ?_)
  · have hf := oneg c737 hf
    refine g_aload_n X dX8_weigh_17 0 rfl rfl ?_
    refine g_get X dX8_weigh_18 ck_X8 0 0 3 rfl rfl (Nat.le_of_ble_eq_true rfl) lkf_X8_13 rfl ?_
    refine g_iload_n X dX8_weigh_21 1 rfl rfl ?_
    refine g_iload_n X dX8_weigh_22 2 rfl rfl ?_
    obtain ⟨q731, hq731, hf⟩ := obind hf
    refine g_callS (gs' := [MO h0 h1 h2 h3 h4 h5 h6 h7 h8 v0, AI cy 107 h2 v2, AI cy 1498 h4 v4]) (rest := [.ref h0]) X dX8_weigh_23 (c_X8_canWeigh l D cy ad h2 v2 p1 p2 hq731) mf_X8_canWeigh ms_X8_canWeigh lkm_X8_123 ⟨(Nat.le_of_ble_eq_true rfl), (Nat.le_of_ble_eq_true rfl), (Nat.le_of_ble_eq_true rfl), (Nat.le_of_ble_eq_true rfl)⟩ [1, 0, 2] _ (by decide : [1, 0, 2].Perm (List.range 3)) rfl (by decide : [1, 0, 2].Perm (List.range 3)) rfl (Nat.le_of_ble_eq_true rfl) rfl ?_
    refine g_if_eq X 33 dX8_weigh_26 (by decide) (fun c736 => ?_) (fun c736 => ?_)
    · have hf := opos c736 hf
      refine g_iconst X (2 : Int32) dX8_weigh_33 (by decide) ?_
      exact j_X8_weigh_b34 X hr v0 v2 v4 p1 p2 (2 : Int32) hf
    · have hf := oneg c736 hf
      refine g_iconst X (0 : Int32) dX8_weigh_29 (by decide) ?_
      refine g_goto X 34 dX8_weigh_30 (by decide) ?_
      exact j_X8_weigh_b34 X hr v0 v2 v4 p1 p2 (0 : Int32) hf
  · have hf := opos c737 hf
    refine g_iconst X (1 : Int32) dX8_weigh_13 (by decide) ?_
    refine g_goto X 34 dX8_weigh_14 (by decide) ?_
    exact j_X8_weigh_b34 X hr v0 v2 v4 p1 p2 (1 : Int32) hf
abbrev rmX8_accuse : Room := ({ frames := 2, cells := 0, slots := 0, locals := 46 } : Room)
def f_X8_accuse_b17 (v0 : MOv) (v2 : Fn) (v4 : Fn) (x1 : Int32) (x2 : Bool) (y0 : Bool) : Option (Int32 × MOv × Fn × Fn) :=
  (f_X8_refused v0 (b2i y0)).bind (fun q747 => if (b2i q747.1) = 0 then (f_X8_remember q747.2 v2 v4).bind (fun q748 => (f_X8_accuseOn v2 x1 x2).bind (fun q749 => some (q749.1, q748.1, q749.2, q748.2))) else some ((0 : Int32), q747.2, v2, v4))
set_option maxRecDepth 100000 in
set_option maxHeartbeats 4000000 in
theorem j_X8_accuse_b17 {p : Program} {l : Launch} {e : Env} {s : State} {m : MethodId} {args : Array Value} {below : List Frame} {meth : Method} {c : Code} {A : Nat → Prop} {D : va_G} {cy : Nat → ClassId} {ad : (Nat → Nat) × (Nat → Nat)} (X : gK p s m args meth c A D cy ad cX8_accuse 3 RX8) (hr : meth.sig.returnType = (some .int)) {h0 h1 h2 h3 h4 h5 h6 h7 h8 : Nat} (v0 : MOv) (v2 : Fn) (v4 : Fn) (x1 : Int32) (x2 : Bool) (y0 : Bool) {q : Int32 × MOv × Fn × Fn} (hf : f_X8_accuse_b17 v0 v2 v4 x1 x2 y0 = some q) : GW p l e rmX8_accuse s m args below meth c A D 3 0 0 (MQ below (cmQ D cy A (some (.int q.1)) ([MO h0 h1 h2 h3 h4 h5 h6 h7 h8 q.2.1, AI cy 107 h2 q.2.2.1, AI cy 1498 h4 q.2.2.2] : List va_W).flatten) args s 0 0 A) 17 [(0, .ref h0), (1, .int x1), (2, .int (b2i x2))] [.int (b2i y0), .ref h0] [MO h0 h1 h2 h3 h4 h5 h6 h7 h8 v0, AI cy 107 h2 v2, AI cy 1498 h4 v4] := by
  unfold f_X8_accuse_b17 at hf
  obtain ⟨q747, hq747, hf⟩ := obind hf
  refine g_callV (gs' := [MO h0 h1 h2 h3 h4 h5 h6 h7 h8 q747.2, AI cy 107 h2 v2, AI cy 1498 h4 v4]) (rest := []) X dX8_accuse_17 (c_X8_refused l D cy ad h0 h1 h2 h3 h4 h5 h6 h7 h8 v0 (b2i y0) hq747) mf_X8_refused mv_X8_refused lkm_X8_102 ⟨(Nat.le_of_ble_eq_true rfl), (Nat.le_of_ble_eq_true rfl), (Nat.le_of_ble_eq_true rfl), (Nat.le_of_ble_eq_true rfl)⟩ 0 0 rfl rfl rfl rfl [0, 1, 2] _ (by decide : [0, 1, 2].Perm (List.range 3)) rfl (by decide : [0, 1, 2].Perm (List.range 3)) rfl (Nat.le_of_ble_eq_true rfl) rfl ?_
  refine g_if_eq X 25 dX8_accuse_20 (by decide) (fun c750 => ?_) (fun c750 => ?_)
  · have hf := opos c750 hf
    refine g_aload_n X dX8_accuse_25 0 rfl rfl ?_
    obtain ⟨q748, hq748, hf⟩ := obind hf
    refine g_callV (gs' := [MO h0 h1 h2 h3 h4 h5 h6 h7 h8 q748.1, AI cy 107 h2 v2, AI cy 1498 h4 q748.2]) (rest := []) X dX8_accuse_26 (c_X8_remember l D cy ad h0 h1 h2 h3 h4 h5 h6 h7 h8 q747.2 v2 v4 hq748) mf_X8_remember mv_X8_remember lkm_X8_177 ⟨(Nat.le_of_ble_eq_true rfl), (Nat.le_of_ble_eq_true rfl), (Nat.le_of_ble_eq_true rfl), (Nat.le_of_ble_eq_true rfl)⟩ 0 0 rfl rfl rfl rfl [0, 1, 2] _ (by decide : [0, 1, 2].Perm (List.range 3)) rfl (by decide : [0, 1, 2].Perm (List.range 3)) rfl (Nat.le_of_ble_eq_true rfl) rfl ?_
    refine g_aload_n X dX8_accuse_29 0 rfl rfl ?_
    refine g_get X dX8_accuse_30 ck_X8 0 0 3 rfl rfl (Nat.le_of_ble_eq_true rfl) lkf_X8_13 rfl ?_
    refine g_iload_n X dX8_accuse_33 1 rfl rfl ?_
    refine g_iload_n X dX8_accuse_34 2 rfl rfl ?_
    obtain ⟨q749, hq749, hf⟩ := obind hf
    refine g_callS (gs' := [MO h0 h1 h2 h3 h4 h5 h6 h7 h8 q748.1, AI cy 107 h2 q749.2, AI cy 1498 h4 q748.2]) (rest := []) X dX8_accuse_35 (c_X8_accuseOn l D cy ad h2 v2 x1 x2 hq749) mf_X8_accuseOn ms_X8_accuseOn lkm_X8_184 ⟨(Nat.le_of_ble_eq_true rfl), (Nat.le_of_ble_eq_true rfl), (Nat.le_of_ble_eq_true rfl), (Nat.le_of_ble_eq_true rfl)⟩ [1, 0, 2] _ (by decide : [1, 0, 2].Perm (List.range 3)) rfl (by decide : [1, 0, 2].Perm (List.range 3)) rfl (Nat.le_of_ble_eq_true rfl) rfl ?_
    have hf := Option.some.inj hf
    subst hf
    exact g_iret X hr dX8_accuse_38
  · have hf := oneg c750 hf
    refine g_iconst X (0 : Int32) dX8_accuse_23 (by decide) ?_
    have hf := Option.some.inj hf
    subst hf
    exact g_iret X hr dX8_accuse_24
def f_X8_accuse (v0 : MOv) (v2 : Fn) (v4 : Fn) (p1 : Int32) (p2 : Bool) : Option (Int32 × MOv × Fn × Fn) :=
  (f_X8_isCoin v2 p1).bind (fun q746 => if (b2i q746) = 0 then f_X8_accuse_b17 v0 v2 v4 p1 p2 true else f_X8_accuse_b17 v0 v2 v4 p1 p2 false)
set_option maxRecDepth 100000 in
set_option maxHeartbeats 4000000 in
theorem c_X8_accuse (l : Launch) (D : va_G) (cy : Nat → ClassId) (ad : (Nat → Nat) × (Nat → Nat)) (h0 h1 h2 h3 h4 h5 h6 h7 h8 : Nat) (v0 : MOv) (v2 : Fn) (v4 : Fn) (p1 : Int32) (p2 : Bool) {q : Int32 × MOv × Fn × Fn} (hf : f_X8_accuse v0 v2 v4 p1 p2 = some q) : CM l yX8_accuse cX8_accuse 3 (some .int) rmX8_accuse D cy ad [.ref h0, .int p1, .int (b2i p2)] [MO h0 h1 h2 h3 h4 h5 h6 h7 h8 v0, AI cy 107 h2 v2, AI cy 1498 h4 v4] (some (.int q.1)) [MO h0 h1 h2 h3 h4 h5 h6 h7 h8 q.2.1, AI cy 107 h2 q.2.2.1, AI cy 1498 h4 q.2.2.2] := by
  refine cm_of (lv0 := [(0, .ref h0), (1, .int p1), (2, .int (b2i p2))]) (by decide) (Nat.le_of_ble_eq_true rfl) rfl ?_
  intro p e s m args below meth c A X hr hn
  have X : gK p s m args meth c A D cy ad cX8_accuse 3 RX8 := X
  unfold f_X8_accuse at hf
  refine g_aload_n X dX8_accuse_0 0 rfl rfl ?_
  refine g_aload_n X dX8_accuse_1 0 rfl rfl ?_
  refine g_get X dX8_accuse_2 ck_X8 0 0 3 rfl rfl (Nat.le_of_ble_eq_true rfl) lkf_X8_13 rfl ?_
  refine g_iload_n X dX8_accuse_5 1 rfl rfl ?_
  obtain ⟨q746, hq746, hf⟩ := obind hf
  refine g_callS (gs' := [MO h0 h1 h2 h3 h4 h5 h6 h7 h8 v0, AI cy 107 h2 v2, AI cy 1498 h4 v4]) (rest := [.ref h0]) X dX8_accuse_6 (c_X8_isCoin l D cy ad h2 v2 p1 hq746) mf_X8_isCoin ms_X8_isCoin lkm_X8_163 ⟨(Nat.le_of_ble_eq_true rfl), (Nat.le_of_ble_eq_true rfl), (Nat.le_of_ble_eq_true rfl), (Nat.le_of_ble_eq_true rfl)⟩ [1, 0, 2] _ (by decide : [1, 0, 2].Perm (List.range 3)) rfl (by decide : [1, 0, 2].Perm (List.range 3)) rfl (Nat.le_of_ble_eq_true rfl) rfl ?_
  refine g_if_eq X 16 dX8_accuse_9 (by decide) (fun c751 => ?_) (fun c751 => ?_)
  · have hf := opos c751 hf
    refine g_iconst X (1 : Int32) dX8_accuse_16 (by decide) ?_
    exact j_X8_accuse_b17 X hr v0 v2 v4 p1 p2 true hf
  · have hf := oneg c751 hf
    refine g_iconst X (0 : Int32) dX8_accuse_12 (by decide) ?_
    refine g_goto X 17 dX8_accuse_13 (by decide) ?_
    exact j_X8_accuse_b17 X hr v0 v2 v4 p1 p2 false hf
abbrev rmX8_accusePan : Room := ({ frames := 2, cells := 0, slots := 0, locals := 45 } : Room)
def f_X8_accusePan_b51 (v0 : MOv) (v2 : Fn) (v4 : Fn) (y0 : Bool) : Option (Int32 × MOv × Fn × Fn) :=
  (f_X8_told v2 y0).bind (fun q763 => some (q763.1, v0, q763.2, v4))
set_option maxRecDepth 100000 in
set_option maxHeartbeats 4000000 in
theorem j_X8_accusePan_b51 {p : Program} {l : Launch} {e : Env} {s : State} {m : MethodId} {args : Array Value} {below : List Frame} {meth : Method} {c : Code} {A : Nat → Prop} {D : va_G} {cy : Nat → ClassId} {ad : (Nat → Nat) × (Nat → Nat)} (X : gK p s m args meth c A D cy ad cX8_accusePan 2 RX8) (hr : meth.sig.returnType = (some .int)) {h0 h1 h2 h3 h4 h5 h6 h7 h8 : Nat} (v0 : MOv) (v2 : Fn) (v4 : Fn) (y0 : Bool) {q : Int32 × MOv × Fn × Fn} (hf : f_X8_accusePan_b51 v0 v2 v4 y0 = some q) : GW p l e rmX8_accusePan s m args below meth c A D 2 0 0 (MQ below (cmQ D cy A (some (.int q.1)) ([MO h0 h1 h2 h3 h4 h5 h6 h7 h8 q.2.1, AI cy 107 h2 q.2.2.1, AI cy 1498 h4 q.2.2.2] : List va_W).flatten) args s 0 0 A) 51 [] [.int (b2i y0), .ref h2] [MO h0 h1 h2 h3 h4 h5 h6 h7 h8 v0, AI cy 107 h2 v2, AI cy 1498 h4 v4] := by
  unfold f_X8_accusePan_b51 at hf
  obtain ⟨q763, hq763, hf⟩ := obind hf
  refine g_callS (gs' := [MO h0 h1 h2 h3 h4 h5 h6 h7 h8 v0, AI cy 107 h2 q763.2, AI cy 1498 h4 v4]) (rest := []) X dX8_accusePan_51 (c_X8_told l D cy ad h2 v2 y0 hq763) mf_X8_told ms_X8_told lkm_X8_93 ⟨(Nat.le_of_ble_eq_true rfl), (Nat.le_of_ble_eq_true rfl), (Nat.le_of_ble_eq_true rfl), (Nat.le_of_ble_eq_true rfl)⟩ [1, 0, 2] _ (by decide : [1, 0, 2].Perm (List.range 3)) rfl (by decide : [1, 0, 2].Perm (List.range 3)) rfl (Nat.le_of_ble_eq_true rfl) rfl ?_
  have hf := Option.some.inj hf
  subst hf
  exact g_iret X hr dX8_accusePan_54
def f_X8_accusePan_b18 (v0 : MOv) (v2 : Fn) (v4 : Fn) (x1 : Int32) (y0 : Bool) : Option (Int32 × MOv × Fn × Fn) :=
  (f_X8_refused v0 (b2i y0)).bind (fun q761 => if (b2i q761.1) = 0 then (f_X8_remember q761.2 v2 v4).bind (fun q762 => if ((v2 (1 : Int32).toNatClampNeg) - (v2 (1 : Int32).toNatClampNeg) / (3 : Int32) * (3 : Int32)) = x1 then f_X8_accusePan_b51 q762.1 v2 q762.2 true else f_X8_accusePan_b51 q762.1 v2 q762.2 false) else some ((0 : Int32), q761.2, v2, v4))
set_option maxRecDepth 100000 in
set_option maxHeartbeats 4000000 in
theorem j_X8_accusePan_b18 {p : Program} {l : Launch} {e : Env} {s : State} {m : MethodId} {args : Array Value} {below : List Frame} {meth : Method} {c : Code} {A : Nat → Prop} {D : va_G} {cy : Nat → ClassId} {ad : (Nat → Nat) × (Nat → Nat)} (X : gK p s m args meth c A D cy ad cX8_accusePan 2 RX8) (hr : meth.sig.returnType = (some .int)) {h0 h1 h2 h3 h4 h5 h6 h7 h8 : Nat} (v0 : MOv) (v2 : Fn) (v4 : Fn) (x1 : Int32) (y0 : Bool) {q : Int32 × MOv × Fn × Fn} (hf : f_X8_accusePan_b18 v0 v2 v4 x1 y0 = some q) : GW p l e rmX8_accusePan s m args below meth c A D 2 0 0 (MQ below (cmQ D cy A (some (.int q.1)) ([MO h0 h1 h2 h3 h4 h5 h6 h7 h8 q.2.1, AI cy 107 h2 q.2.2.1, AI cy 1498 h4 q.2.2.2] : List va_W).flatten) args s 0 0 A) 18 [(0, .ref h0), (1, .int x1)] [.int (b2i y0), .ref h0] [MO h0 h1 h2 h3 h4 h5 h6 h7 h8 v0, AI cy 107 h2 v2, AI cy 1498 h4 v4] := by
  unfold f_X8_accusePan_b18 at hf
  obtain ⟨q761, hq761, hf⟩ := obind hf
  refine g_callV (gs' := [MO h0 h1 h2 h3 h4 h5 h6 h7 h8 q761.2, AI cy 107 h2 v2, AI cy 1498 h4 v4]) (rest := []) X dX8_accusePan_18 (c_X8_refused l D cy ad h0 h1 h2 h3 h4 h5 h6 h7 h8 v0 (b2i y0) hq761) mf_X8_refused mv_X8_refused lkm_X8_102 ⟨(Nat.le_of_ble_eq_true rfl), (Nat.le_of_ble_eq_true rfl), (Nat.le_of_ble_eq_true rfl), (Nat.le_of_ble_eq_true rfl)⟩ 0 0 rfl rfl rfl rfl [0, 1, 2] _ (by decide : [0, 1, 2].Perm (List.range 3)) rfl (by decide : [0, 1, 2].Perm (List.range 3)) rfl (Nat.le_of_ble_eq_true rfl) rfl ?_
  refine g_if_eq X 26 dX8_accusePan_21 (by decide) (fun c765 => ?_) (fun c765 => ?_)
  · have hf := opos c765 hf
    refine g_aload_n X dX8_accusePan_26 0 rfl rfl ?_
    obtain ⟨q762, hq762, hf⟩ := obind hf
    refine g_callV (gs' := [MO h0 h1 h2 h3 h4 h5 h6 h7 h8 q762.1, AI cy 107 h2 v2, AI cy 1498 h4 q762.2]) (rest := []) X dX8_accusePan_27 (c_X8_remember l D cy ad h0 h1 h2 h3 h4 h5 h6 h7 h8 q761.2 v2 v4 hq762) mf_X8_remember mv_X8_remember lkm_X8_177 ⟨(Nat.le_of_ble_eq_true rfl), (Nat.le_of_ble_eq_true rfl), (Nat.le_of_ble_eq_true rfl), (Nat.le_of_ble_eq_true rfl)⟩ 0 0 rfl rfl rfl rfl [0, 1, 2] _ (by decide : [0, 1, 2].Perm (List.range 3)) rfl (by decide : [0, 1, 2].Perm (List.range 3)) rfl (Nat.le_of_ble_eq_true rfl) rfl ?_
    refine g_aload_n X dX8_accusePan_30 0 rfl rfl ?_
    refine g_get X dX8_accusePan_31 ck_X8 0 0 3 rfl rfl (Nat.le_of_ble_eq_true rfl) lkf_X8_13 rfl ?_
    refine g_aload_n X dX8_accusePan_34 0 rfl rfl ?_
    refine g_get X dX8_accusePan_35 ck_X8 0 0 3 rfl rfl (Nat.le_of_ble_eq_true rfl) lkf_X8_13 rfl ?_
    refine g_iconst X (1 : Int32) dX8_accusePan_38 (by decide) ?_
    refine g_iaload X dX8_accusePan_39 1 0 rfl rfl (by decide) ?_
    refine g_iconst X (3 : Int32) dX8_accusePan_40 (by decide) ?_
    refine g_irem X dX8_accusePan_41 (by decide) ?_
    refine g_iload_n X dX8_accusePan_42 1 rfl rfl ?_
    refine g_icmp_ne X 50 dX8_accusePan_43 (by decide) (fun c764 => ?_) (fun c764 => ?_)
    · have hf := oneg c764 hf
      refine g_iconst X (0 : Int32) dX8_accusePan_50 (by decide) ?_
      refine g_sub [] (lv' := []) rfl ?_
      exact j_X8_accusePan_b51 X hr q762.1 v2 q762.2 false hf
    · have hf := opos c764 hf
      refine g_iconst X (1 : Int32) dX8_accusePan_46 (by decide) ?_
      refine g_goto X 51 dX8_accusePan_47 (by decide) ?_
      refine g_sub [] (lv' := []) rfl ?_
      exact j_X8_accusePan_b51 X hr q762.1 v2 q762.2 true hf
  · have hf := oneg c765 hf
    refine g_iconst X (0 : Int32) dX8_accusePan_24 (by decide) ?_
    have hf := Option.some.inj hf
    subst hf
    exact g_iret X hr dX8_accusePan_25
def f_X8_accusePan (v0 : MOv) (v2 : Fn) (v4 : Fn) (p1 : Int32) : Option (Int32 × MOv × Fn × Fn) :=
  (f_X8_in (p1.toInt64) (0 : Int64) (2 : Int64)).bind (fun q760 => if (b2i q760) = 0 then f_X8_accusePan_b18 v0 v2 v4 p1 true else f_X8_accusePan_b18 v0 v2 v4 p1 false)
set_option maxRecDepth 100000 in
set_option maxHeartbeats 4000000 in
theorem c_X8_accusePan (l : Launch) (D : va_G) (cy : Nat → ClassId) (ad : (Nat → Nat) × (Nat → Nat)) (h0 h1 h2 h3 h4 h5 h6 h7 h8 : Nat) (v0 : MOv) (v2 : Fn) (v4 : Fn) (p1 : Int32) {q : Int32 × MOv × Fn × Fn} (hf : f_X8_accusePan v0 v2 v4 p1 = some q) : CM l yX8_accusePan cX8_accusePan 2 (some .int) rmX8_accusePan D cy ad [.ref h0, .int p1] [MO h0 h1 h2 h3 h4 h5 h6 h7 h8 v0, AI cy 107 h2 v2, AI cy 1498 h4 v4] (some (.int q.1)) [MO h0 h1 h2 h3 h4 h5 h6 h7 h8 q.2.1, AI cy 107 h2 q.2.2.1, AI cy 1498 h4 q.2.2.2] := by
  refine cm_of (lv0 := [(0, .ref h0), (1, .int p1)]) (by decide) (Nat.le_of_ble_eq_true rfl) rfl ?_
  intro p e s m args below meth c A X hr hn
  have X : gK p s m args meth c A D cy ad cX8_accusePan 2 RX8 := X
  unfold f_X8_accusePan at hf
  refine g_aload_n X dX8_accusePan_0 0 rfl rfl ?_
  refine g_iload_n X dX8_accusePan_1 1 rfl rfl ?_
  refine g_i2l X dX8_accusePan_2 ?_
  refine g_lconst X (0 : Int64) dX8_accusePan_3 (by decide) ?_
  refine g_ldc2 X lkl_X8_188 dX8_accusePan_4 ?_
  obtain ⟨q760, hq760, hf⟩ := obind hf
  refine g_callS (gs' := [MO h0 h1 h2 h3 h4 h5 h6 h7 h8 v0, AI cy 107 h2 v2, AI cy 1498 h4 v4]) (rest := [.ref h0]) X dX8_accusePan_7 (c_X8_in l D cy ad (p1.toInt64) (0 : Int64) (2 : Int64) hq760) mf_X8_in ms_X8_in lkm_X8_43 ⟨(Nat.le_of_ble_eq_true rfl), (Nat.le_of_ble_eq_true rfl), (Nat.le_of_ble_eq_true rfl), (Nat.le_of_ble_eq_true rfl)⟩ [0, 1, 2] _ (by decide : [0, 1, 2].Perm (List.range 3)) rfl (by decide : [0, 1, 2].Perm (List.range 3)) rfl (Nat.le_of_ble_eq_true rfl) rfl ?_
  refine g_if_eq X 17 dX8_accusePan_10 (by decide) (fun c766 => ?_) (fun c766 => ?_)
  · have hf := opos c766 hf
    refine g_iconst X (1 : Int32) dX8_accusePan_17 (by decide) ?_
    exact j_X8_accusePan_b18 X hr v0 v2 v4 p1 true hf
  · have hf := oneg c766 hf
    refine g_iconst X (0 : Int32) dX8_accusePan_13 (by decide) ?_
    refine g_goto X 18 dX8_accusePan_14 (by decide) ?_
    exact j_X8_accusePan_b18 X hr v0 v2 v4 p1 false hf
abbrev rmX8_forget : Room := ({ frames := 2, cells := 0, slots := 0, locals := 45 } : Room)
def f_X8_forget_b15 (v0 : MOv) (v2 : Fn) (v4 : Fn) (y0 : Bool) : Option (Int32 × MOv × Fn × Fn) :=
  (f_X8_refused v0 (b2i y0)).bind (fun q773 => if (b2i q773.1) = 0 then (f_X8_remember q773.2 v2 v4).bind (fun q774 => (f_X8_forgetOn v2).bind (fun q775 => some (q775.1, q774.1, q775.2, q774.2))) else some ((0 : Int32), q773.2, v2, v4))
set_option maxRecDepth 100000 in
set_option maxHeartbeats 4000000 in
theorem j_X8_forget_b15 {p : Program} {l : Launch} {e : Env} {s : State} {m : MethodId} {args : Array Value} {below : List Frame} {meth : Method} {c : Code} {A : Nat → Prop} {D : va_G} {cy : Nat → ClassId} {ad : (Nat → Nat) × (Nat → Nat)} (X : gK p s m args meth c A D cy ad cX8_forget 1 RX8) (hr : meth.sig.returnType = (some .int)) {h0 h1 h2 h3 h4 h5 h6 h7 h8 : Nat} (v0 : MOv) (v2 : Fn) (v4 : Fn) (y0 : Bool) {q : Int32 × MOv × Fn × Fn} (hf : f_X8_forget_b15 v0 v2 v4 y0 = some q) : GW p l e rmX8_forget s m args below meth c A D 1 0 0 (MQ below (cmQ D cy A (some (.int q.1)) ([MO h0 h1 h2 h3 h4 h5 h6 h7 h8 q.2.1, AI cy 107 h2 q.2.2.1, AI cy 1498 h4 q.2.2.2] : List va_W).flatten) args s 0 0 A) 15 [(0, .ref h0)] [.int (b2i y0), .ref h0] [MO h0 h1 h2 h3 h4 h5 h6 h7 h8 v0, AI cy 107 h2 v2, AI cy 1498 h4 v4] := by
  unfold f_X8_forget_b15 at hf
  obtain ⟨q773, hq773, hf⟩ := obind hf
  refine g_callV (gs' := [MO h0 h1 h2 h3 h4 h5 h6 h7 h8 q773.2, AI cy 107 h2 v2, AI cy 1498 h4 v4]) (rest := []) X dX8_forget_15 (c_X8_refused l D cy ad h0 h1 h2 h3 h4 h5 h6 h7 h8 v0 (b2i y0) hq773) mf_X8_refused mv_X8_refused lkm_X8_102 ⟨(Nat.le_of_ble_eq_true rfl), (Nat.le_of_ble_eq_true rfl), (Nat.le_of_ble_eq_true rfl), (Nat.le_of_ble_eq_true rfl)⟩ 0 0 rfl rfl rfl rfl [0, 1, 2] _ (by decide : [0, 1, 2].Perm (List.range 3)) rfl (by decide : [0, 1, 2].Perm (List.range 3)) rfl (Nat.le_of_ble_eq_true rfl) rfl ?_
  refine g_if_eq X 23 dX8_forget_18 (by decide) (fun c776 => ?_) (fun c776 => ?_)
  · have hf := opos c776 hf
    refine g_aload_n X dX8_forget_23 0 rfl rfl ?_
    obtain ⟨q774, hq774, hf⟩ := obind hf
    refine g_callV (gs' := [MO h0 h1 h2 h3 h4 h5 h6 h7 h8 q774.1, AI cy 107 h2 v2, AI cy 1498 h4 q774.2]) (rest := []) X dX8_forget_24 (c_X8_remember l D cy ad h0 h1 h2 h3 h4 h5 h6 h7 h8 q773.2 v2 v4 hq774) mf_X8_remember mv_X8_remember lkm_X8_177 ⟨(Nat.le_of_ble_eq_true rfl), (Nat.le_of_ble_eq_true rfl), (Nat.le_of_ble_eq_true rfl), (Nat.le_of_ble_eq_true rfl)⟩ 0 0 rfl rfl rfl rfl [0, 1, 2] _ (by decide : [0, 1, 2].Perm (List.range 3)) rfl (by decide : [0, 1, 2].Perm (List.range 3)) rfl (Nat.le_of_ble_eq_true rfl) rfl ?_
    refine g_aload_n X dX8_forget_27 0 rfl rfl ?_
    refine g_get X dX8_forget_28 ck_X8 0 0 3 rfl rfl (Nat.le_of_ble_eq_true rfl) lkf_X8_13 rfl ?_
    obtain ⟨q775, hq775, hf⟩ := obind hf
    refine g_callS (gs' := [MO h0 h1 h2 h3 h4 h5 h6 h7 h8 q774.1, AI cy 107 h2 q775.2, AI cy 1498 h4 q774.2]) (rest := []) X dX8_forget_31 (c_X8_forgetOn l D cy ad h2 v2 hq775) mf_X8_forgetOn ms_X8_forgetOn lkm_X8_190 ⟨(Nat.le_of_ble_eq_true rfl), (Nat.le_of_ble_eq_true rfl), (Nat.le_of_ble_eq_true rfl), (Nat.le_of_ble_eq_true rfl)⟩ [1, 0, 2] _ (by decide : [1, 0, 2].Perm (List.range 3)) rfl (by decide : [1, 0, 2].Perm (List.range 3)) rfl (Nat.le_of_ble_eq_true rfl) rfl ?_
    have hf := Option.some.inj hf
    subst hf
    exact g_iret X hr dX8_forget_34
  · have hf := oneg c776 hf
    refine g_iconst X (0 : Int32) dX8_forget_21 (by decide) ?_
    have hf := Option.some.inj hf
    subst hf
    exact g_iret X hr dX8_forget_22
def f_X8_forget (v0 : MOv) (v2 : Fn) (v4 : Fn) : Option (Int32 × MOv × Fn × Fn) :=
  if (v2 (4 : Int32).toNatClampNeg) = 0 then f_X8_forget_b15 v0 v2 v4 true else f_X8_forget_b15 v0 v2 v4 false
set_option maxRecDepth 100000 in
set_option maxHeartbeats 4000000 in
theorem c_X8_forget (l : Launch) (D : va_G) (cy : Nat → ClassId) (ad : (Nat → Nat) × (Nat → Nat)) (h0 h1 h2 h3 h4 h5 h6 h7 h8 : Nat) (v0 : MOv) (v2 : Fn) (v4 : Fn) {q : Int32 × MOv × Fn × Fn} (hf : f_X8_forget v0 v2 v4 = some q) : CM l yX8_forget cX8_forget 1 (some .int) rmX8_forget D cy ad [.ref h0] [MO h0 h1 h2 h3 h4 h5 h6 h7 h8 v0, AI cy 107 h2 v2, AI cy 1498 h4 v4] (some (.int q.1)) [MO h0 h1 h2 h3 h4 h5 h6 h7 h8 q.2.1, AI cy 107 h2 q.2.2.1, AI cy 1498 h4 q.2.2.2] := by
  refine cm_of (lv0 := [(0, .ref h0)]) (by decide) (Nat.le_of_ble_eq_true rfl) rfl ?_
  intro p e s m args below meth c A X hr hn
  have X : gK p s m args meth c A D cy ad cX8_forget 1 RX8 := X
  unfold f_X8_forget at hf
  refine g_aload_n X dX8_forget_0 0 rfl rfl ?_
  refine g_aload_n X dX8_forget_1 0 rfl rfl ?_
  refine g_get X dX8_forget_2 ck_X8 0 0 3 rfl rfl (Nat.le_of_ble_eq_true rfl) lkf_X8_13 rfl ?_
  refine g_iconst X (4 : Int32) dX8_forget_5 (by decide) ?_
  refine g_iaload X dX8_forget_6 1 0 rfl rfl (by decide) ?_
  refine g_if_ne X 14 dX8_forget_7 (by decide) (fun c777 => ?_) (fun c777 => ?_)
  · have hf := oneg c777 hf
    refine g_iconst X (0 : Int32) dX8_forget_14 (by decide) ?_
    exact j_X8_forget_b15 X hr v0 v2 v4 false hf
  · have hf := opos c777 hf
    refine g_iconst X (1 : Int32) dX8_forget_10 (by decide) ?_
    refine g_goto X 15 dX8_forget_11 (by decide) ?_
    exact j_X8_forget_b15 X hr v0 v2 v4 true hf
abbrev rmX8_undo : Room := ({ frames := 1, cells := 0, slots := 0, locals := 24 } : Room)
def f_X8_undo_b13 (v0 : MOv) (v2 : Fn) (v4 : Fn) (y0 : Bool) : Option (Int32 × MOv × Fn) :=
  (f_X8_refused v0 (b2i y0)).bind (fun q782 => if (b2i q782.1) = 0 then (f_X8_copyState 1498 107 v4 v2 ((107 : Int32) * (q782.2.2.2.1 - (1 : Int32))) (0 : Int32)).bind (fun q783 => some ((q782.2.2.2.1 - (1 : Int32)), (q782.2.1, q782.2.2.1, (q782.2.2.2.1 - (1 : Int32)), q782.2.2.2.2.1, q782.2.2.2.2.2.1, q782.2.2.2.2.2.2), q783)) else some ((0 : Int32), q782.2, v2))
set_option maxRecDepth 100000 in
set_option maxHeartbeats 4000000 in
theorem j_X8_undo_b13 {p : Program} {l : Launch} {e : Env} {s : State} {m : MethodId} {args : Array Value} {below : List Frame} {meth : Method} {c : Code} {A : Nat → Prop} {D : va_G} {cy : Nat → ClassId} {ad : (Nat → Nat) × (Nat → Nat)} (X : gK p s m args meth c A D cy ad cX8_undo 1 RX8) (hr : meth.sig.returnType = (some .int)) {h0 h1 h2 h3 h4 h5 h6 h7 h8 : Nat} (v0 : MOv) (v2 : Fn) (v4 : Fn) (y0 : Bool) {q : Int32 × MOv × Fn} (hf : f_X8_undo_b13 v0 v2 v4 y0 = some q) : GW p l e rmX8_undo s m args below meth c A D 1 0 0 (MQ below (cmQ D cy A (some (.int q.1)) ([MO h0 h1 h2 h3 h4 h5 h6 h7 h8 q.2.1, AI cy 107 h2 q.2.2, AI cy 1498 h4 v4] : List va_W).flatten) args s 0 0 A) 13 [(0, .ref h0)] [.int (b2i y0), .ref h0] [MO h0 h1 h2 h3 h4 h5 h6 h7 h8 v0, AI cy 107 h2 v2, AI cy 1498 h4 v4] := by
  unfold f_X8_undo_b13 at hf
  obtain ⟨q782, hq782, hf⟩ := obind hf
  refine g_callV (gs' := [MO h0 h1 h2 h3 h4 h5 h6 h7 h8 q782.2, AI cy 107 h2 v2, AI cy 1498 h4 v4]) (rest := []) X dX8_undo_13 (c_X8_refused l D cy ad h0 h1 h2 h3 h4 h5 h6 h7 h8 v0 (b2i y0) hq782) mf_X8_refused mv_X8_refused lkm_X8_102 ⟨(Nat.le_of_ble_eq_true rfl), (Nat.le_of_ble_eq_true rfl), (Nat.le_of_ble_eq_true rfl), (Nat.le_of_ble_eq_true rfl)⟩ 0 0 rfl rfl rfl rfl [0, 1, 2] _ (by decide : [0, 1, 2].Perm (List.range 3)) rfl (by decide : [0, 1, 2].Perm (List.range 3)) rfl (Nat.le_of_ble_eq_true rfl) rfl ?_
  refine g_if_eq X 21 dX8_undo_16 (by decide) (fun c784 => ?_) (fun c784 => ?_)
  · have hf := opos c784 hf
    refine g_aload_n X dX8_undo_21 0 rfl rfl ?_
    refine g_dup X dX8_undo_22 rfl ?_
    refine g_get X dX8_undo_23 ck_X8 0 0 6 rfl rfl (Nat.le_of_ble_eq_true rfl) lkf_X8_158 rfl ?_
    refine g_iconst X (1 : Int32) dX8_undo_26 (by decide) ?_
    refine g_isub X dX8_undo_27 ?_
    refine g_put (gs' := [MO h0 h1 h2 h3 h4 h5 h6 h7 h8 (q782.2.1, q782.2.2.1, (q782.2.2.2.1 - (1 : Int32)), q782.2.2.2.2.1, q782.2.2.2.2.2.1, q782.2.2.2.2.2.2), AI cy 107 h2 v2, AI cy 1498 h4 v4]) X dX8_undo_28 ck_X8 ct_X8 0 0 6 rfl rfl (Nat.le_of_ble_eq_true rfl) lkf_X8_158 rfl rfl rfl (Nat.le_of_ble_eq_true rfl) rfl ?_
    refine g_aload_n X dX8_undo_31 0 rfl rfl ?_
    refine g_get X dX8_undo_32 ck_X8 0 0 5 rfl rfl (Nat.le_of_ble_eq_true rfl) lkf_X8_19 rfl ?_
    refine g_bipush X (107 : Int32) dX8_undo_35 (by decide) ?_
    refine g_aload_n X dX8_undo_37 0 rfl rfl ?_
    refine g_get X dX8_undo_38 ck_X8 0 0 6 rfl rfl (Nat.le_of_ble_eq_true rfl) lkf_X8_158 rfl ?_
    refine g_imul X dX8_undo_41 ?_
    refine g_aload_n X dX8_undo_42 0 rfl rfl ?_
    refine g_get X dX8_undo_43 ck_X8 0 0 3 rfl rfl (Nat.le_of_ble_eq_true rfl) lkf_X8_13 rfl ?_
    refine g_iconst X (0 : Int32) dX8_undo_46 (by decide) ?_
    obtain ⟨q783, hq783, hf⟩ := obind hf
    refine g_callS (gs' := [MO h0 h1 h2 h3 h4 h5 h6 h7 h8 (q782.2.1, q782.2.2.1, (q782.2.2.2.1 - (1 : Int32)), q782.2.2.2.2.1, q782.2.2.2.2.2.1, q782.2.2.2.2.2.2), AI cy 107 h2 q783, AI cy 1498 h4 v4]) (rest := []) X dX8_undo_47 (c_X8_copyState l D cy ad h4 h2 1498 107 v4 v2 ((107 : Int32) * (q782.2.2.2.1 - (1 : Int32))) (0 : Int32) hq783) mf_X8_copyState ms_X8_copyState lkm_X8_154 ⟨(Nat.le_of_ble_eq_true rfl), (Nat.le_of_ble_eq_true rfl), (Nat.le_of_ble_eq_true rfl), (Nat.le_of_ble_eq_true rfl)⟩ [2, 1, 0] _ (by decide : [2, 1, 0].Perm (List.range 3)) rfl (by decide : [2, 1, 0].Perm (List.range 3)) rfl (Nat.le_of_ble_eq_true rfl) rfl ?_
    refine g_aload_n X dX8_undo_50 0 rfl rfl ?_
    refine g_get X dX8_undo_51 ck_X8 0 0 6 rfl rfl (Nat.le_of_ble_eq_true rfl) lkf_X8_158 rfl ?_
    have hf := Option.some.inj hf
    subst hf
    exact g_iret X hr dX8_undo_54
  · have hf := oneg c784 hf
    refine g_iconst X (0 : Int32) dX8_undo_19 (by decide) ?_
    have hf := Option.some.inj hf
    subst hf
    exact g_iret X hr dX8_undo_20
def f_X8_undo (v0 : MOv) (v2 : Fn) (v4 : Fn) : Option (Int32 × MOv × Fn) :=
  if v0.2.2.1 = 0 then f_X8_undo_b13 v0 v2 v4 true else f_X8_undo_b13 v0 v2 v4 false
set_option maxRecDepth 100000 in
set_option maxHeartbeats 4000000 in
theorem c_X8_undo (l : Launch) (D : va_G) (cy : Nat → ClassId) (ad : (Nat → Nat) × (Nat → Nat)) (h0 h1 h2 h3 h4 h5 h6 h7 h8 : Nat) (v0 : MOv) (v2 : Fn) (v4 : Fn) {q : Int32 × MOv × Fn} (hf : f_X8_undo v0 v2 v4 = some q) : CM l yX8_undo cX8_undo 1 (some .int) rmX8_undo D cy ad [.ref h0] [MO h0 h1 h2 h3 h4 h5 h6 h7 h8 v0, AI cy 107 h2 v2, AI cy 1498 h4 v4] (some (.int q.1)) [MO h0 h1 h2 h3 h4 h5 h6 h7 h8 q.2.1, AI cy 107 h2 q.2.2, AI cy 1498 h4 v4] := by
  refine cm_of (lv0 := [(0, .ref h0)]) (by decide) (Nat.le_of_ble_eq_true rfl) rfl ?_
  intro p e s m args below meth c A X hr hn
  have X : gK p s m args meth c A D cy ad cX8_undo 1 RX8 := X
  unfold f_X8_undo at hf
  refine g_aload_n X dX8_undo_0 0 rfl rfl ?_
  refine g_aload_n X dX8_undo_1 0 rfl rfl ?_
  refine g_get X dX8_undo_2 ck_X8 0 0 6 rfl rfl (Nat.le_of_ble_eq_true rfl) lkf_X8_158 rfl ?_
  refine g_if_ne X 12 dX8_undo_5 (by decide) (fun c785 => ?_) (fun c785 => ?_)
  · have hf := oneg c785 hf
    refine g_iconst X (0 : Int32) dX8_undo_12 (by decide) ?_
    exact j_X8_undo_b13 X hr v0 v2 v4 false hf
  · have hf := opos c785 hf
    refine g_iconst X (1 : Int32) dX8_undo_8 (by decide) ?_
    refine g_goto X 13 dX8_undo_9 (by decide) ?_
    exact j_X8_undo_b13 X hr v0 v2 v4 true hf
abbrev rmX8_leaves : Room := ({ frames := 5, cells := 0, slots := 0, locals := 116 } : Room)
def f_X8_leaves_b34 (v0 : MOv) (v2 : Fn) (v7 : Fn) (v8 : Fn) (x1 : Int32) (x2 : Int32) (x3 : Int32) (y0 : Int32) : Option (Int32 × MOv × Fn × Fn) :=
  (f_X8_refused v0 y0).bind (fun q800 => if (b2i q800.1) = 0 then (f_X8_gather q800.2 v7 v2).bind (fun q801 => (f_X8_worst q801.1 q801.2 v8 x1 x2 (v2 (2 : Int32).toNatClampNeg) (v2 (3 : Int32).toNatClampNeg)).bind (fun q802 => if x3 < 0 ∨ 3 ≤ x3.toNatClampNeg then none else some ((q802.2 x3.toNatClampNeg), q801.1, q801.2, q802.2))) else some ((0 : Int32), q800.2, v7, v8))
set_option maxRecDepth 100000 in
set_option maxHeartbeats 4000000 in
theorem j_X8_leaves_b34 {p : Program} {l : Launch} {e : Env} {s : State} {m : MethodId} {args : Array Value} {below : List Frame} {meth : Method} {c : Code} {A : Nat → Prop} {D : va_G} {cy : Nat → ClassId} {ad : (Nat → Nat) × (Nat → Nat)} (X : gK p s m args meth c A D cy ad cX8_leaves 4 RX8) (hr : meth.sig.returnType = (some .int)) {h0 h1 h2 h3 h4 h5 h6 h7 h8 : Nat} (v0 : MOv) (v2 : Fn) (v7 : Fn) (v8 : Fn) (x1 : Int32) (x2 : Int32) (x3 : Int32) (y0 : Int32) {q : Int32 × MOv × Fn × Fn} (hf : f_X8_leaves_b34 v0 v2 v7 v8 x1 x2 x3 y0 = some q) : GW p l e rmX8_leaves s m args below meth c A D 4 0 0 (MQ below (cmQ D cy A (some (.int q.1)) ([MO h0 h1 h2 h3 h4 h5 h6 h7 h8 q.2.1, AI cy 107 h2 v2, AI cy 75 h7 q.2.2.1, AI cy 3 h8 q.2.2.2] : List va_W).flatten) args s 0 0 A) 34 [(0, .ref h0), (1, .int x1), (2, .int x2), (3, .int x3)] [.int y0, .ref h0] [MO h0 h1 h2 h3 h4 h5 h6 h7 h8 v0, AI cy 107 h2 v2, AI cy 75 h7 v7, AI cy 3 h8 v8] := by
  unfold f_X8_leaves_b34 at hf
  obtain ⟨q800, hq800, hf⟩ := obind hf
  refine g_callV (gs' := [MO h0 h1 h2 h3 h4 h5 h6 h7 h8 q800.2, AI cy 107 h2 v2, AI cy 75 h7 v7, AI cy 3 h8 v8]) (rest := []) X dX8_leaves_34 (c_X8_refused l D cy ad h0 h1 h2 h3 h4 h5 h6 h7 h8 v0 y0 hq800) mf_X8_refused mv_X8_refused lkm_X8_102 ⟨(Nat.le_of_ble_eq_true rfl), (Nat.le_of_ble_eq_true rfl), (Nat.le_of_ble_eq_true rfl), (Nat.le_of_ble_eq_true rfl)⟩ 0 0 rfl rfl rfl rfl [0, 1, 2, 3] _ (by decide : [0, 1, 2, 3].Perm (List.range 4)) rfl (by decide : [0, 1, 2, 3].Perm (List.range 4)) rfl (Nat.le_of_ble_eq_true rfl) rfl ?_
  refine g_if_eq X 42 dX8_leaves_37 (by decide) (fun c804 => ?_) (fun c804 => ?_)
  · have hf := opos c804 hf
    refine g_aload_n X dX8_leaves_42 0 rfl rfl ?_
    refine g_aload_n X dX8_leaves_43 0 rfl rfl ?_
    refine g_get X dX8_leaves_44 ck_X8 0 0 3 rfl rfl (Nat.le_of_ble_eq_true rfl) lkf_X8_13 rfl ?_
    obtain ⟨q801, hq801, hf⟩ := obind hf
    refine g_callV (gs' := [MO h0 h1 h2 h3 h4 h5 h6 h7 h8 q801.1, AI cy 107 h2 v2, AI cy 75 h7 q801.2, AI cy 3 h8 v8]) (rest := []) X dX8_leaves_47 (c_X8_gather l D cy ad h0 h1 h2 h3 h4 h5 h6 h7 h8 h2 q800.2 v7 v2 hq801) mf_X8_gather mv_X8_gather lkm_X8_193 ⟨(Nat.le_of_ble_eq_true rfl), (Nat.le_of_ble_eq_true rfl), (Nat.le_of_ble_eq_true rfl), (Nat.le_of_ble_eq_true rfl)⟩ 0 0 rfl rfl rfl rfl [0, 2, 1, 3] _ (by decide : [0, 2, 1, 3].Perm (List.range 4)) rfl (by decide : [0, 2, 1, 3].Perm (List.range 4)) rfl (Nat.le_of_ble_eq_true rfl) rfl ?_
    refine g_aload_n X dX8_leaves_50 0 rfl rfl ?_
    refine g_iload_n X dX8_leaves_51 1 rfl rfl ?_
    refine g_iload_n X dX8_leaves_52 2 rfl rfl ?_
    refine g_aload_n X dX8_leaves_53 0 rfl rfl ?_
    refine g_get X dX8_leaves_54 ck_X8 0 0 3 rfl rfl (Nat.le_of_ble_eq_true rfl) lkf_X8_13 rfl ?_
    refine g_iconst X (2 : Int32) dX8_leaves_57 (by decide) ?_
    refine g_iaload X dX8_leaves_58 1 0 rfl rfl (by decide) ?_
    refine g_aload_n X dX8_leaves_59 0 rfl rfl ?_
    refine g_get X dX8_leaves_60 ck_X8 0 0 3 rfl rfl (Nat.le_of_ble_eq_true rfl) lkf_X8_13 rfl ?_
    refine g_iconst X (3 : Int32) dX8_leaves_63 (by decide) ?_
    refine g_iaload X dX8_leaves_64 1 0 rfl rfl (by decide) ?_
    obtain ⟨q802, hq802, hf⟩ := obind hf
    refine g_callV (gs' := [MO h0 h1 h2 h3 h4 h5 h6 h7 h8 q801.1, AI cy 107 h2 v2, AI cy 75 h7 q801.2, AI cy 3 h8 q802.2]) (rest := []) X dX8_leaves_65 (c_X8_worst l D cy ad h0 h1 h2 h3 h4 h5 h6 h7 h8 q801.1 q801.2 v8 x1 x2 (v2 (2 : Int32).toNatClampNeg) (v2 (3 : Int32).toNatClampNeg) hq802) mf_X8_worst mv_X8_worst lkm_X8_196 ⟨(Nat.le_of_ble_eq_true rfl), (Nat.le_of_ble_eq_true rfl), (Nat.le_of_ble_eq_true rfl), (Nat.le_of_ble_eq_true rfl)⟩ 0 0 rfl rfl rfl rfl [0, 2, 3, 1] _ (by decide : [0, 2, 3, 1].Perm (List.range 4)) rfl (by decide : [0, 2, 3, 1].Perm (List.range 4)) rfl (Nat.le_of_ble_eq_true rfl) rfl ?_
    refine g_pop X dX8_leaves_68 rfl ?_
    refine g_aload_n X dX8_leaves_69 0 rfl rfl ?_
    refine g_get X dX8_leaves_70 ck_X8 0 0 11 rfl rfl (Nat.le_of_ble_eq_true rfl) lkf_X8_32 rfl ?_
    refine g_iload_n X dX8_leaves_73 3 rfl rfl ?_
    obtain ⟨n803, hf⟩ := oguard hf
    refine g_iaload X dX8_leaves_74 3 0 rfl rfl n803 ?_
    have hf := Option.some.inj hf
    subst hf
    exact g_iret X hr dX8_leaves_75
  · have hf := oneg c804 hf
    refine g_iconst X (0 : Int32) dX8_leaves_40 (by decide) ?_
    have hf := Option.some.inj hf
    subst hf
    exact g_iret X hr dX8_leaves_41
def f_X8_leaves (v0 : MOv) (v2 : Fn) (v7 : Fn) (v8 : Fn) (p1 : Int32) (p2 : Int32) (p3 : Int32) : Option (Int32 × MOv × Fn × Fn) :=
  (f_X8_in (p3.toInt64) (0 : Int64) (2 : Int64)).bind (fun q798 => if (b2i q798) = 0 then f_X8_leaves_b34 v0 v2 v7 v8 p1 p2 p3 (1 : Int32) else (f_X8_isWeighing v2 p1 p2).bind (fun q799 => if (b2i q799) = 0 then f_X8_leaves_b34 v0 v2 v7 v8 p1 p2 p3 (2 : Int32) else f_X8_leaves_b34 v0 v2 v7 v8 p1 p2 p3 (0 : Int32)))
set_option maxRecDepth 100000 in
set_option maxHeartbeats 4000000 in
theorem c_X8_leaves (l : Launch) (D : va_G) (cy : Nat → ClassId) (ad : (Nat → Nat) × (Nat → Nat)) (h0 h1 h2 h3 h4 h5 h6 h7 h8 : Nat) (v0 : MOv) (v2 : Fn) (v7 : Fn) (v8 : Fn) (p1 : Int32) (p2 : Int32) (p3 : Int32) {q : Int32 × MOv × Fn × Fn} (hf : f_X8_leaves v0 v2 v7 v8 p1 p2 p3 = some q) : CM l yX8_leaves cX8_leaves 4 (some .int) rmX8_leaves D cy ad [.ref h0, .int p1, .int p2, .int p3] [MO h0 h1 h2 h3 h4 h5 h6 h7 h8 v0, AI cy 107 h2 v2, AI cy 75 h7 v7, AI cy 3 h8 v8] (some (.int q.1)) [MO h0 h1 h2 h3 h4 h5 h6 h7 h8 q.2.1, AI cy 107 h2 v2, AI cy 75 h7 q.2.2.1, AI cy 3 h8 q.2.2.2] := by
  refine cm_of (lv0 := [(0, .ref h0), (1, .int p1), (2, .int p2), (3, .int p3)]) (by decide) (Nat.le_of_ble_eq_true rfl) rfl ?_
  intro p e s m args below meth c A X hr hn
  have X : gK p s m args meth c A D cy ad cX8_leaves 4 RX8 := X
  unfold f_X8_leaves at hf
  refine g_aload_n X dX8_leaves_0 0 rfl rfl ?_
  refine g_iload_n X dX8_leaves_1 3 rfl rfl ?_
  refine g_i2l X dX8_leaves_2 ?_
  refine g_lconst X (0 : Int64) dX8_leaves_3 (by decide) ?_
  refine g_ldc2 X lkl_X8_188 dX8_leaves_4 ?_
  obtain ⟨q798, hq798, hf⟩ := obind hf
  refine g_callS (gs' := [MO h0 h1 h2 h3 h4 h5 h6 h7 h8 v0, AI cy 107 h2 v2, AI cy 75 h7 v7, AI cy 3 h8 v8]) (rest := [.ref h0]) X dX8_leaves_7 (c_X8_in l D cy ad (p3.toInt64) (0 : Int64) (2 : Int64) hq798) mf_X8_in ms_X8_in lkm_X8_43 ⟨(Nat.le_of_ble_eq_true rfl), (Nat.le_of_ble_eq_true rfl), (Nat.le_of_ble_eq_true rfl), (Nat.le_of_ble_eq_true rfl)⟩ [0, 1, 2, 3] _ (by decide : [0, 1, 2, 3].Perm (List.range 4)) rfl (by decide : [0, 1, 2, 3].Perm (List.range 4)) rfl (Nat.le_of_ble_eq_true rfl) rfl ?_
  refine g_if_ne X 17 dX8_leaves_10 (by decide) (fun c806 => ?_) (fun c806 => ?_)
  · have hf := oneg c806 hf
    refine g_aload_n X dX8_leaves_17 0 rfl rfl ?_
    refine g_get X dX8_leaves_18 ck_X8 0 0 3 rfl rfl (Nat.le_of_ble_eq_true rfl) lkf_X8_13 rfl ?_
    refine g_iload_n X dX8_leaves_21 1 rfl rfl ?_
    refine g_iload_n X dX8_leaves_22 2 rfl rfl ?_
    obtain ⟨q799, hq799, hf⟩ := obind hf
    refine g_callS (gs' := [MO h0 h1 h2 h3 h4 h5 h6 h7 h8 v0, AI cy 107 h2 v2, AI cy 75 h7 v7, AI cy 3 h8 v8]) (rest := [.ref h0]) X dX8_leaves_23 (c_X8_isWeighing l D cy ad h2 v2 p1 p2 hq799) mf_X8_isWeighing ms_X8_isWeighing lkm_X8_90 ⟨(Nat.le_of_ble_eq_true rfl), (Nat.le_of_ble_eq_true rfl), (Nat.le_of_ble_eq_true rfl), (Nat.le_of_ble_eq_true rfl)⟩ [1, 0, 2, 3] _ (by decide : [1, 0, 2, 3].Perm (List.range 4)) rfl (by decide : [1, 0, 2, 3].Perm (List.range 4)) rfl (Nat.le_of_ble_eq_true rfl) rfl ?_
    refine g_if_eq X 33 dX8_leaves_26 (by decide) (fun c805 => ?_) (fun c805 => ?_)
    · have hf := opos c805 hf
      refine g_iconst X (2 : Int32) dX8_leaves_33 (by decide) ?_
      exact j_X8_leaves_b34 X hr v0 v2 v7 v8 p1 p2 p3 (2 : Int32) hf
    · have hf := oneg c805 hf
      refine g_iconst X (0 : Int32) dX8_leaves_29 (by decide) ?_
      refine g_goto X 34 dX8_leaves_30 (by decide) ?_
      exact j_X8_leaves_b34 X hr v0 v2 v7 v8 p1 p2 p3 (0 : Int32) hf
  · have hf := opos c806 hf
    refine g_iconst X (1 : Int32) dX8_leaves_13 (by decide) ?_
    refine g_goto X 34 dX8_leaves_14 (by decide) ?_
    exact j_X8_leaves_b34 X hr v0 v2 v7 v8 p1 p2 p3 (1 : Int32) hf
abbrev rmX8_best : Room := ({ frames := 5, cells := 0, slots := 0, locals := 116 } : Room)
def f_X8_best_B76_b192 (v0 : MOv) (v2 : Fn) (v7 : Fn) (v8 : Fn) (x1 : Int32) (x2 : Int32) (x3 : Int32) (x4 : Int32) (x5 : Int32) (x6 : Int32) (x7 : Int32) (x8 : Int32) : Option ((Int32 × Int32 × Int32 × Int32 × Fn) ⊕ ((Int32 × Int32 × Int32 × Fn))) :=
  some (.inl (x4, x5, x6, (x8 + (1 : Int32)), v8))
set_option maxRecDepth 100000 in
set_option maxHeartbeats 4000000 in
theorem j_X8_best_B76_b192 {p : Program} {l : Launch} {e : Env} {s : State} {m : MethodId} {args : Array Value} {below : List Frame} {meth : Method} {c : Code} {A : Nat → Prop} {D : va_G} {cy : Nat → ClassId} {ad : (Nat → Nat) × (Nat → Nat)} {Q : State → Prop} (X : gK p s m args meth c A D cy ad cX8_best 11 RX8) (hr : meth.sig.returnType = (some .int)) {h0 h1 h2 h3 h4 h5 h6 h7 h8 : Nat} (v0 : MOv) (v2 : Fn) (v7 : Fn) (v8 : Fn) (x1 : Int32) (x2 : Int32) (x3 : Int32) (x4 : Int32) (x5 : Int32) (x6 : Int32) (x7 : Int32) (x8 : Int32) {q : (Int32 × Int32 × Int32 × Int32 × Fn) ⊕ ((Int32 × Int32 × Int32 × Fn))} (hf : f_X8_best_B76_b192 v0 v2 v7 v8 x1 x2 x3 x4 x5 x6 x7 x8 = some q) (K1 : ∀ s' : Int32 × Int32 × Int32 × Int32 × Fn, q = .inl s' → GW p l e rmX8_best s m args below meth c A D 11 0 0 Q 76 [(0, .ref h0), (1, .int x1), (2, .int x2), (3, .int x3), (4, .int s'.1), (5, .int s'.2.1), (6, .int s'.2.2.1), (7, .int x7), (8, .int s'.2.2.2.1)] [] [MO h0 h1 h2 h3 h4 h5 h6 h7 h8 v0, AI cy 107 h2 v2, AI cy 75 h7 v7, AI cy 3 h8 s'.2.2.2.2]) (K2 : ∀ e' : Int32 × Int32 × Int32 × Fn, q = .inr (e') → GW p l e rmX8_best s m args below meth c A D 11 0 0 Q 198 [(0, .ref h0), (1, .int x1), (2, .int x2), (3, .int x3), (4, .int e'.1), (5, .int e'.2.1), (6, .int e'.2.2.1), (7, .int x7)] [] [MO h0 h1 h2 h3 h4 h5 h6 h7 h8 v0, AI cy 107 h2 v2, AI cy 75 h7 v7, AI cy 3 h8 e'.2.2.2]) : GW p l e rmX8_best s m args below meth c A D 11 0 0 Q 192 [(0, .ref h0), (1, .int x1), (2, .int x2), (3, .int x3), (4, .int x4), (5, .int x5), (6, .int x6), (7, .int x7), (8, .int x8)] [] [MO h0 h1 h2 h3 h4 h5 h6 h7 h8 v0, AI cy 107 h2 v2, AI cy 75 h7 v7, AI cy 3 h8 v8] := by
  unfold f_X8_best_B76_b192 at hf
  refine g_iinc (lv' := [(0, .ref h0), (1, .int x1), (2, .int x2), (3, .int x3), (4, .int x4), (5, .int x5), (6, .int x6), (7, .int x7), (8, .int (x8 + (1 : Int32)))]) (v := (1 : Int32)) X dX8_best_192 8 rfl (by decide) [1, 2, 3, 4, 5, 6, 7, 8, 0] (Nat.le_of_ble_eq_true rfl) rfl ?_
  refine g_goto X 76 dX8_best_195 (by decide) ?_
  exact K1 (x4, x5, x6, (x8 + (1 : Int32)), v8) (Option.some.inj hf).symm
def f_X8_best_B76_b190 (v0 : MOv) (v2 : Fn) (v7 : Fn) (v8 : Fn) (x1 : Int32) (x2 : Int32) (x3 : Int32) (x4 : Int32) (x5 : Int32) (x7 : Int32) (x8 : Int32) (y0 : Int32) : Option ((Int32 × Int32 × Int32 × Int32 × Fn) ⊕ ((Int32 × Int32 × Int32 × Fn))) :=
  f_X8_best_B76_b192 v0 v2 v7 v8 x1 x2 x3 x4 x5 y0 x7 x8
set_option maxRecDepth 100000 in
set_option maxHeartbeats 4000000 in
theorem j_X8_best_B76_b190 {p : Program} {l : Launch} {e : Env} {s : State} {m : MethodId} {args : Array Value} {below : List Frame} {meth : Method} {c : Code} {A : Nat → Prop} {D : va_G} {cy : Nat → ClassId} {ad : (Nat → Nat) × (Nat → Nat)} {Q : State → Prop} (X : gK p s m args meth c A D cy ad cX8_best 11 RX8) (hr : meth.sig.returnType = (some .int)) {h0 h1 h2 h3 h4 h5 h6 h7 h8 : Nat} (v0 : MOv) (v2 : Fn) (v7 : Fn) (v8 : Fn) (x1 : Int32) (x2 : Int32) (x3 : Int32) (x4 : Int32) (x5 : Int32) (x7 : Int32) (x8 : Int32) (y0 : Int32) {q : (Int32 × Int32 × Int32 × Int32 × Fn) ⊕ ((Int32 × Int32 × Int32 × Fn))} (hf : f_X8_best_B76_b190 v0 v2 v7 v8 x1 x2 x3 x4 x5 x7 x8 y0 = some q) (K1 : ∀ s' : Int32 × Int32 × Int32 × Int32 × Fn, q = .inl s' → GW p l e rmX8_best s m args below meth c A D 11 0 0 Q 76 [(0, .ref h0), (1, .int x1), (2, .int x2), (3, .int x3), (4, .int s'.1), (5, .int s'.2.1), (6, .int s'.2.2.1), (7, .int x7), (8, .int s'.2.2.2.1)] [] [MO h0 h1 h2 h3 h4 h5 h6 h7 h8 v0, AI cy 107 h2 v2, AI cy 75 h7 v7, AI cy 3 h8 s'.2.2.2.2]) (K2 : ∀ e' : Int32 × Int32 × Int32 × Fn, q = .inr (e') → GW p l e rmX8_best s m args below meth c A D 11 0 0 Q 198 [(0, .ref h0), (1, .int x1), (2, .int x2), (3, .int x3), (4, .int e'.1), (5, .int e'.2.1), (6, .int e'.2.2.1), (7, .int x7)] [] [MO h0 h1 h2 h3 h4 h5 h6 h7 h8 v0, AI cy 107 h2 v2, AI cy 75 h7 v7, AI cy 3 h8 e'.2.2.2]) : GW p l e rmX8_best s m args below meth c A D 11 0 0 Q 190 [(0, .ref h0), (1, .int x1), (2, .int x2), (3, .int x3), (4, .int x4), (5, .int x5), (7, .int x7), (8, .int x8)] [.int y0] [MO h0 h1 h2 h3 h4 h5 h6 h7 h8 v0, AI cy 107 h2 v2, AI cy 75 h7 v7, AI cy 3 h8 v8] := by
  unfold f_X8_best_B76_b190 at hf
  refine g_istore (lv' := [(0, .ref h0), (1, .int x1), (2, .int x2), (3, .int x3), (4, .int x4), (5, .int x5), (6, .int y0), (7, .int x7), (8, .int x8)]) X dX8_best_190 [1, 2, 3, 4, 5, 6, 0, 7, 8] (Nat.le_of_ble_eq_true rfl) rfl ?_
  exact j_X8_best_B76_b192 X hr v0 v2 v7 v8 x1 x2 x3 x4 x5 y0 x7 x8 hf K1 K2
def f_X8_best_B76_b176 (v0 : MOv) (v2 : Fn) (v7 : Fn) (v8 : Fn) (x1 : Int32) (x2 : Int32) (x3 : Int32) (x4 : Int32) (x6 : Int32) (x7 : Int32) (x8 : Int32) (x9 : Int32) (x10 : Int32) (y0 : Int32) : Option ((Int32 × Int32 × Int32 × Int32 × Fn) ⊕ ((Int32 × Int32 × Int32 × Fn))) :=
  if x10 = 0 then f_X8_best_B76_b190 v0 v2 v7 v8 x1 x2 x3 x4 y0 x7 x8 x6 else f_X8_best_B76_b190 v0 v2 v7 v8 x1 x2 x3 x4 y0 x7 x8 x9
set_option maxRecDepth 100000 in
set_option maxHeartbeats 4000000 in
theorem j_X8_best_B76_b176 {p : Program} {l : Launch} {e : Env} {s : State} {m : MethodId} {args : Array Value} {below : List Frame} {meth : Method} {c : Code} {A : Nat → Prop} {D : va_G} {cy : Nat → ClassId} {ad : (Nat → Nat) × (Nat → Nat)} {Q : State → Prop} (X : gK p s m args meth c A D cy ad cX8_best 11 RX8) (hr : meth.sig.returnType = (some .int)) {h0 h1 h2 h3 h4 h5 h6 h7 h8 : Nat} (v0 : MOv) (v2 : Fn) (v7 : Fn) (v8 : Fn) (x1 : Int32) (x2 : Int32) (x3 : Int32) (x4 : Int32) (x6 : Int32) (x7 : Int32) (x8 : Int32) (x9 : Int32) (x10 : Int32) (y0 : Int32) {q : (Int32 × Int32 × Int32 × Int32 × Fn) ⊕ ((Int32 × Int32 × Int32 × Fn))} (hf : f_X8_best_B76_b176 v0 v2 v7 v8 x1 x2 x3 x4 x6 x7 x8 x9 x10 y0 = some q) (K1 : ∀ s' : Int32 × Int32 × Int32 × Int32 × Fn, q = .inl s' → GW p l e rmX8_best s m args below meth c A D 11 0 0 Q 76 [(0, .ref h0), (1, .int x1), (2, .int x2), (3, .int x3), (4, .int s'.1), (5, .int s'.2.1), (6, .int s'.2.2.1), (7, .int x7), (8, .int s'.2.2.2.1)] [] [MO h0 h1 h2 h3 h4 h5 h6 h7 h8 v0, AI cy 107 h2 v2, AI cy 75 h7 v7, AI cy 3 h8 s'.2.2.2.2]) (K2 : ∀ e' : Int32 × Int32 × Int32 × Fn, q = .inr (e') → GW p l e rmX8_best s m args below meth c A D 11 0 0 Q 198 [(0, .ref h0), (1, .int x1), (2, .int x2), (3, .int x3), (4, .int e'.1), (5, .int e'.2.1), (6, .int e'.2.2.1), (7, .int x7)] [] [MO h0 h1 h2 h3 h4 h5 h6 h7 h8 v0, AI cy 107 h2 v2, AI cy 75 h7 v7, AI cy 3 h8 e'.2.2.2]) : GW p l e rmX8_best s m args below meth c A D 11 0 0 Q 176 [(0, .ref h0), (1, .int x1), (2, .int x2), (3, .int x3), (4, .int x4), (6, .int x6), (7, .int x7), (8, .int x8), (9, .int x9), (10, .int x10)] [.int y0] [MO h0 h1 h2 h3 h4 h5 h6 h7 h8 v0, AI cy 107 h2 v2, AI cy 75 h7 v7, AI cy 3 h8 v8] := by
  unfold f_X8_best_B76_b176 at hf
  refine g_istore (lv' := [(0, .ref h0), (1, .int x1), (2, .int x2), (3, .int x3), (4, .int x4), (5, .int y0), (6, .int x6), (7, .int x7), (8, .int x8), (9, .int x9), (10, .int x10)]) X dX8_best_176 [1, 2, 3, 4, 5, 0, 6, 7, 8, 9, 10] (Nat.le_of_ble_eq_true rfl) rfl ?_
  refine g_iload X dX8_best_178 10 rfl ?_
  refine g_if_eq X 188 dX8_best_180 (by decide) (fun c827 => ?_) (fun c827 => ?_)
  · have hf := opos c827 hf
    refine g_iload X dX8_best_188 6 rfl ?_
    refine g_sub [0, 1, 2, 3, 4, 5, 7, 8] (lv' := [(0, .ref h0), (1, .int x1), (2, .int x2), (3, .int x3), (4, .int x4), (5, .int y0), (7, .int x7), (8, .int x8)]) rfl ?_
    exact j_X8_best_B76_b190 X hr v0 v2 v7 v8 x1 x2 x3 x4 y0 x7 x8 x6 hf K1 K2
  · have hf := oneg c827 hf
    refine g_iload X dX8_best_183 9 rfl ?_
    refine g_goto X 190 dX8_best_185 (by decide) ?_
    refine g_sub [0, 1, 2, 3, 4, 5, 7, 8] (lv' := [(0, .ref h0), (1, .int x1), (2, .int x2), (3, .int x3), (4, .int x4), (5, .int y0), (7, .int x7), (8, .int x8)]) rfl ?_
    exact j_X8_best_B76_b190 X hr v0 v2 v7 v8 x1 x2 x3 x4 y0 x7 x8 x9 hf K1 K2
def f_X8_best_B76_b162 (v0 : MOv) (v2 : Fn) (v7 : Fn) (v8 : Fn) (x1 : Int32) (x2 : Int32) (x3 : Int32) (x5 : Int32) (x6 : Int32) (x7 : Int32) (x8 : Int32) (x9 : Int32) (x10 : Int32) (y0 : Int32) : Option ((Int32 × Int32 × Int32 × Int32 × Fn) ⊕ ((Int32 × Int32 × Int32 × Fn))) :=
  if x10 = 0 then f_X8_best_B76_b176 v0 v2 v7 v8 x1 x2 x3 y0 x6 x7 x8 x9 x10 x5 else f_X8_best_B76_b176 v0 v2 v7 v8 x1 x2 x3 y0 x6 x7 x8 x9 x10 x8
set_option maxRecDepth 100000 in
set_option maxHeartbeats 4000000 in
theorem j_X8_best_B76_b162 {p : Program} {l : Launch} {e : Env} {s : State} {m : MethodId} {args : Array Value} {below : List Frame} {meth : Method} {c : Code} {A : Nat → Prop} {D : va_G} {cy : Nat → ClassId} {ad : (Nat → Nat) × (Nat → Nat)} {Q : State → Prop} (X : gK p s m args meth c A D cy ad cX8_best 11 RX8) (hr : meth.sig.returnType = (some .int)) {h0 h1 h2 h3 h4 h5 h6 h7 h8 : Nat} (v0 : MOv) (v2 : Fn) (v7 : Fn) (v8 : Fn) (x1 : Int32) (x2 : Int32) (x3 : Int32) (x5 : Int32) (x6 : Int32) (x7 : Int32) (x8 : Int32) (x9 : Int32) (x10 : Int32) (y0 : Int32) {q : (Int32 × Int32 × Int32 × Int32 × Fn) ⊕ ((Int32 × Int32 × Int32 × Fn))} (hf : f_X8_best_B76_b162 v0 v2 v7 v8 x1 x2 x3 x5 x6 x7 x8 x9 x10 y0 = some q) (K1 : ∀ s' : Int32 × Int32 × Int32 × Int32 × Fn, q = .inl s' → GW p l e rmX8_best s m args below meth c A D 11 0 0 Q 76 [(0, .ref h0), (1, .int x1), (2, .int x2), (3, .int x3), (4, .int s'.1), (5, .int s'.2.1), (6, .int s'.2.2.1), (7, .int x7), (8, .int s'.2.2.2.1)] [] [MO h0 h1 h2 h3 h4 h5 h6 h7 h8 v0, AI cy 107 h2 v2, AI cy 75 h7 v7, AI cy 3 h8 s'.2.2.2.2]) (K2 : ∀ e' : Int32 × Int32 × Int32 × Fn, q = .inr (e') → GW p l e rmX8_best s m args below meth c A D 11 0 0 Q 198 [(0, .ref h0), (1, .int x1), (2, .int x2), (3, .int x3), (4, .int e'.1), (5, .int e'.2.1), (6, .int e'.2.2.1), (7, .int x7)] [] [MO h0 h1 h2 h3 h4 h5 h6 h7 h8 v0, AI cy 107 h2 v2, AI cy 75 h7 v7, AI cy 3 h8 e'.2.2.2]) : GW p l e rmX8_best s m args below meth c A D 11 0 0 Q 162 [(0, .ref h0), (1, .int x1), (2, .int x2), (3, .int x3), (5, .int x5), (6, .int x6), (7, .int x7), (8, .int x8), (9, .int x9), (10, .int x10)] [.int y0] [MO h0 h1 h2 h3 h4 h5 h6 h7 h8 v0, AI cy 107 h2 v2, AI cy 75 h7 v7, AI cy 3 h8 v8] := by
  unfold f_X8_best_B76_b162 at hf
  refine g_istore (lv' := [(0, .ref h0), (1, .int x1), (2, .int x2), (3, .int x3), (4, .int y0), (5, .int x5), (6, .int x6), (7, .int x7), (8, .int x8), (9, .int x9), (10, .int x10)]) X dX8_best_162 [1, 2, 3, 4, 0, 5, 6, 7, 8, 9, 10] (Nat.le_of_ble_eq_true rfl) rfl ?_
  refine g_iload X dX8_best_164 10 rfl ?_
  refine g_if_eq X 174 dX8_best_166 (by decide) (fun c828 => ?_) (fun c828 => ?_)
  · have hf := opos c828 hf
    refine g_iload X dX8_best_174 5 rfl ?_
    refine g_sub [0, 1, 2, 3, 4, 6, 7, 8, 9, 10] (lv' := [(0, .ref h0), (1, .int x1), (2, .int x2), (3, .int x3), (4, .int y0), (6, .int x6), (7, .int x7), (8, .int x8), (9, .int x9), (10, .int x10)]) rfl ?_
    exact j_X8_best_B76_b176 X hr v0 v2 v7 v8 x1 x2 x3 y0 x6 x7 x8 x9 x10 x5 hf K1 K2
  · have hf := oneg c828 hf
    refine g_iload X dX8_best_169 8 rfl ?_
    refine g_goto X 176 dX8_best_171 (by decide) ?_
    refine g_sub [0, 1, 2, 3, 4, 6, 7, 8, 9, 10] (lv' := [(0, .ref h0), (1, .int x1), (2, .int x2), (3, .int x3), (4, .int y0), (6, .int x6), (7, .int x7), (8, .int x8), (9, .int x9), (10, .int x10)]) rfl ?_
    exact j_X8_best_B76_b176 X hr v0 v2 v7 v8 x1 x2 x3 y0 x6 x7 x8 x9 x10 x8 hf K1 K2
def f_X8_best_B76_b148 (v0 : MOv) (v2 : Fn) (v7 : Fn) (v8 : Fn) (x1 : Int32) (x2 : Int32) (x3 : Int32) (x4 : Int32) (x5 : Int32) (x6 : Int32) (x7 : Int32) (x8 : Int32) (x9 : Int32) (y0 : Bool) : Option ((Int32 × Int32 × Int32 × Int32 × Fn) ⊕ ((Int32 × Int32 × Int32 × Fn))) :=
  if (b2i y0) = 0 then f_X8_best_B76_b162 v0 v2 v7 v8 x1 x2 x3 x5 x6 x7 x8 x9 (b2i y0) x4 else f_X8_best_B76_b162 v0 v2 v7 v8 x1 x2 x3 x5 x6 x7 x8 x9 (b2i y0) x7
set_option maxRecDepth 100000 in
set_option maxHeartbeats 4000000 in
theorem j_X8_best_B76_b148 {p : Program} {l : Launch} {e : Env} {s : State} {m : MethodId} {args : Array Value} {below : List Frame} {meth : Method} {c : Code} {A : Nat → Prop} {D : va_G} {cy : Nat → ClassId} {ad : (Nat → Nat) × (Nat → Nat)} {Q : State → Prop} (X : gK p s m args meth c A D cy ad cX8_best 11 RX8) (hr : meth.sig.returnType = (some .int)) {h0 h1 h2 h3 h4 h5 h6 h7 h8 : Nat} (v0 : MOv) (v2 : Fn) (v7 : Fn) (v8 : Fn) (x1 : Int32) (x2 : Int32) (x3 : Int32) (x4 : Int32) (x5 : Int32) (x6 : Int32) (x7 : Int32) (x8 : Int32) (x9 : Int32) (y0 : Bool) {q : (Int32 × Int32 × Int32 × Int32 × Fn) ⊕ ((Int32 × Int32 × Int32 × Fn))} (hf : f_X8_best_B76_b148 v0 v2 v7 v8 x1 x2 x3 x4 x5 x6 x7 x8 x9 y0 = some q) (K1 : ∀ s' : Int32 × Int32 × Int32 × Int32 × Fn, q = .inl s' → GW p l e rmX8_best s m args below meth c A D 11 0 0 Q 76 [(0, .ref h0), (1, .int x1), (2, .int x2), (3, .int x3), (4, .int s'.1), (5, .int s'.2.1), (6, .int s'.2.2.1), (7, .int x7), (8, .int s'.2.2.2.1)] [] [MO h0 h1 h2 h3 h4 h5 h6 h7 h8 v0, AI cy 107 h2 v2, AI cy 75 h7 v7, AI cy 3 h8 s'.2.2.2.2]) (K2 : ∀ e' : Int32 × Int32 × Int32 × Fn, q = .inr (e') → GW p l e rmX8_best s m args below meth c A D 11 0 0 Q 198 [(0, .ref h0), (1, .int x1), (2, .int x2), (3, .int x3), (4, .int e'.1), (5, .int e'.2.1), (6, .int e'.2.2.1), (7, .int x7)] [] [MO h0 h1 h2 h3 h4 h5 h6 h7 h8 v0, AI cy 107 h2 v2, AI cy 75 h7 v7, AI cy 3 h8 e'.2.2.2]) : GW p l e rmX8_best s m args below meth c A D 11 0 0 Q 148 [(0, .ref h0), (1, .int x1), (2, .int x2), (3, .int x3), (4, .int x4), (5, .int x5), (6, .int x6), (7, .int x7), (8, .int x8), (9, .int x9)] [.int (b2i y0)] [MO h0 h1 h2 h3 h4 h5 h6 h7 h8 v0, AI cy 107 h2 v2, AI cy 75 h7 v7, AI cy 3 h8 v8] := by
  unfold f_X8_best_B76_b148 at hf
  refine g_istore (lv' := [(0, .ref h0), (1, .int x1), (2, .int x2), (3, .int x3), (4, .int x4), (5, .int x5), (6, .int x6), (7, .int x7), (8, .int x8), (9, .int x9), (10, .int (b2i y0))]) X dX8_best_148 [1, 2, 3, 4, 5, 6, 7, 8, 9, 10, 0] (Nat.le_of_ble_eq_true rfl) rfl ?_
  refine g_iload X dX8_best_150 10 rfl ?_
  refine g_if_eq X 160 dX8_best_152 (by decide) (fun c829 => ?_) (fun c829 => ?_)
  · have hf := opos c829 hf
    refine g_iload X dX8_best_160 4 rfl ?_
    refine g_sub [0, 1, 2, 3, 5, 6, 7, 8, 9, 10] (lv' := [(0, .ref h0), (1, .int x1), (2, .int x2), (3, .int x3), (5, .int x5), (6, .int x6), (7, .int x7), (8, .int x8), (9, .int x9), (10, .int (b2i y0))]) rfl ?_
    exact j_X8_best_B76_b162 X hr v0 v2 v7 v8 x1 x2 x3 x5 x6 x7 x8 x9 (b2i y0) x4 hf K1 K2
  · have hf := oneg c829 hf
    refine g_iload X dX8_best_155 7 rfl ?_
    refine g_goto X 162 dX8_best_157 (by decide) ?_
    refine g_sub [0, 1, 2, 3, 5, 6, 7, 8, 9, 10] (lv' := [(0, .ref h0), (1, .int x1), (2, .int x2), (3, .int x3), (5, .int x5), (6, .int x6), (7, .int x7), (8, .int x8), (9, .int x9), (10, .int (b2i y0))]) rfl ?_
    exact j_X8_best_B76_b162 X hr v0 v2 v7 v8 x1 x2 x3 x5 x6 x7 x8 x9 (b2i y0) x7 hf K1 K2
def f_X8_best_B76_b143 (v0 : MOv) (v2 : Fn) (v7 : Fn) (v8 : Fn) (x1 : Int32) (x2 : Int32) (x3 : Int32) (x4 : Int32) (x5 : Int32) (x6 : Int32) (x7 : Int32) (x8 : Int32) (x9 : Int32) : Option ((Int32 × Int32 × Int32 × Int32 × Fn) ⊕ ((Int32 × Int32 × Int32 × Fn))) :=
  f_X8_best_B76_b148 v0 v2 v7 v8 x1 x2 x3 x4 x5 x6 x7 x8 x9 true
set_option maxRecDepth 100000 in
set_option maxHeartbeats 4000000 in
theorem j_X8_best_B76_b143 {p : Program} {l : Launch} {e : Env} {s : State} {m : MethodId} {args : Array Value} {below : List Frame} {meth : Method} {c : Code} {A : Nat → Prop} {D : va_G} {cy : Nat → ClassId} {ad : (Nat → Nat) × (Nat → Nat)} {Q : State → Prop} (X : gK p s m args meth c A D cy ad cX8_best 11 RX8) (hr : meth.sig.returnType = (some .int)) {h0 h1 h2 h3 h4 h5 h6 h7 h8 : Nat} (v0 : MOv) (v2 : Fn) (v7 : Fn) (v8 : Fn) (x1 : Int32) (x2 : Int32) (x3 : Int32) (x4 : Int32) (x5 : Int32) (x6 : Int32) (x7 : Int32) (x8 : Int32) (x9 : Int32) {q : (Int32 × Int32 × Int32 × Int32 × Fn) ⊕ ((Int32 × Int32 × Int32 × Fn))} (hf : f_X8_best_B76_b143 v0 v2 v7 v8 x1 x2 x3 x4 x5 x6 x7 x8 x9 = some q) (K1 : ∀ s' : Int32 × Int32 × Int32 × Int32 × Fn, q = .inl s' → GW p l e rmX8_best s m args below meth c A D 11 0 0 Q 76 [(0, .ref h0), (1, .int x1), (2, .int x2), (3, .int x3), (4, .int s'.1), (5, .int s'.2.1), (6, .int s'.2.2.1), (7, .int x7), (8, .int s'.2.2.2.1)] [] [MO h0 h1 h2 h3 h4 h5 h6 h7 h8 v0, AI cy 107 h2 v2, AI cy 75 h7 v7, AI cy 3 h8 s'.2.2.2.2]) (K2 : ∀ e' : Int32 × Int32 × Int32 × Fn, q = .inr (e') → GW p l e rmX8_best s m args below meth c A D 11 0 0 Q 198 [(0, .ref h0), (1, .int x1), (2, .int x2), (3, .int x3), (4, .int e'.1), (5, .int e'.2.1), (6, .int e'.2.2.1), (7, .int x7)] [] [MO h0 h1 h2 h3 h4 h5 h6 h7 h8 v0, AI cy 107 h2 v2, AI cy 75 h7 v7, AI cy 3 h8 e'.2.2.2]) : GW p l e rmX8_best s m args below meth c A D 11 0 0 Q 143 [(0, .ref h0), (1, .int x1), (2, .int x2), (3, .int x3), (4, .int x4), (5, .int x5), (6, .int x6), (7, .int x7), (8, .int x8), (9, .int x9)] [] [MO h0 h1 h2 h3 h4 h5 h6 h7 h8 v0, AI cy 107 h2 v2, AI cy 75 h7 v7, AI cy 3 h8 v8] := by
  unfold f_X8_best_B76_b143 at hf
  refine g_iconst X (1 : Int32) dX8_best_143 (by decide) ?_
  refine g_goto X 148 dX8_best_144 (by decide) ?_
  exact j_X8_best_B76_b148 X hr v0 v2 v7 v8 x1 x2 x3 x4 x5 x6 x7 x8 x9 true hf K1 K2
def f_X8_best_B76 (v0 : MOv) (v2 : Fn) (v7 : Fn) (x1 : Int32) (x2 : Int32) (x3 : Int32) (x7 : Int32) (z : Int32 × Int32 × Int32 × Int32 × Fn) : Option ((Int32 × Int32 × Int32 × Int32 × Fn) ⊕ ((Int32 × Int32 × Int32 × Fn))) :=
  if x3 ≤ z.2.2.2.1 then some (.inr ((z.1, z.2.1, z.2.2.1, z.2.2.2.2))) else (f_X8_bits x7).bind (fun q824 => if q824 = x1 then if (x7 &&& z.2.2.2.1) = 0 then (f_X8_bits z.2.2.2.1).bind (fun q825 => if q825 = x1 then (f_X8_worst v0 v7 z.2.2.2.2 x7 z.2.2.2.1 (v2 (2 : Int32).toNatClampNeg) (v2 (3 : Int32).toNatClampNeg)).bind (fun q826 => if z.2.2.1 = (-1 : Int32) then f_X8_best_B76_b143 v0 v2 v7 q826.2 x1 x2 x3 z.1 z.2.1 z.2.2.1 x7 z.2.2.2.1 q826.1 else if z.2.2.1 ≤ q826.1 then f_X8_best_B76_b148 v0 v2 v7 q826.2 x1 x2 x3 z.1 z.2.1 z.2.2.1 x7 z.2.2.2.1 q826.1 false else f_X8_best_B76_b143 v0 v2 v7 q826.2 x1 x2 x3 z.1 z.2.1 z.2.2.1 x7 z.2.2.2.1 q826.1) else f_X8_best_B76_b192 v0 v2 v7 z.2.2.2.2 x1 x2 x3 z.1 z.2.1 z.2.2.1 x7 z.2.2.2.1) else f_X8_best_B76_b192 v0 v2 v7 z.2.2.2.2 x1 x2 x3 z.1 z.2.1 z.2.2.1 x7 z.2.2.2.1 else some (.inr ((z.1, z.2.1, z.2.2.1, z.2.2.2.2))))
set_option maxRecDepth 100000 in
set_option maxHeartbeats 4000000 in
theorem b_X8_best_B76 {p : Program} {l : Launch} {e : Env} {s : State} {m : MethodId} {args : Array Value} {below : List Frame} {meth : Method} {c : Code} {A : Nat → Prop} {D : va_G} {cy : Nat → ClassId} {ad : (Nat → Nat) × (Nat → Nat)} {Q : State → Prop} (X : gK p s m args meth c A D cy ad cX8_best 11 RX8) (hr : meth.sig.returnType = (some .int)) {h0 h1 h2 h3 h4 h5 h6 h7 h8 : Nat} (v0 : MOv) (v2 : Fn) (v7 : Fn) (x1 : Int32) (x2 : Int32) (x3 : Int32) (x7 : Int32) (z : Int32 × Int32 × Int32 × Int32 × Fn) {q : (Int32 × Int32 × Int32 × Int32 × Fn) ⊕ ((Int32 × Int32 × Int32 × Fn))} (hf : f_X8_best_B76 v0 v2 v7 x1 x2 x3 x7 z = some q) (K1 : ∀ s' : Int32 × Int32 × Int32 × Int32 × Fn, q = .inl s' → GW p l e rmX8_best s m args below meth c A D 11 0 0 Q 76 [(0, .ref h0), (1, .int x1), (2, .int x2), (3, .int x3), (4, .int s'.1), (5, .int s'.2.1), (6, .int s'.2.2.1), (7, .int x7), (8, .int s'.2.2.2.1)] [] [MO h0 h1 h2 h3 h4 h5 h6 h7 h8 v0, AI cy 107 h2 v2, AI cy 75 h7 v7, AI cy 3 h8 s'.2.2.2.2]) (K2 : ∀ e' : Int32 × Int32 × Int32 × Fn, q = .inr (e') → GW p l e rmX8_best s m args below meth c A D 11 0 0 Q 198 [(0, .ref h0), (1, .int x1), (2, .int x2), (3, .int x3), (4, .int e'.1), (5, .int e'.2.1), (6, .int e'.2.2.1), (7, .int x7)] [] [MO h0 h1 h2 h3 h4 h5 h6 h7 h8 v0, AI cy 107 h2 v2, AI cy 75 h7 v7, AI cy 3 h8 e'.2.2.2]) : GW p l e rmX8_best s m args below meth c A D 11 0 0 Q 76 [(0, .ref h0), (1, .int x1), (2, .int x2), (3, .int x3), (4, .int z.1), (5, .int z.2.1), (6, .int z.2.2.1), (7, .int x7), (8, .int z.2.2.2.1)] [] [MO h0 h1 h2 h3 h4 h5 h6 h7 h8 v0, AI cy 107 h2 v2, AI cy 75 h7 v7, AI cy 3 h8 z.2.2.2.2] := by
  unfold f_X8_best_B76 at hf
  refine g_iload X dX8_best_76 8 rfl ?_
  refine g_iload_n X dX8_best_78 3 rfl rfl ?_
  refine g_icmp_ge X 198 dX8_best_79 (by decide) (fun c835 => ?_) (fun c835 => ?_)
  · have hf := opos c835 hf
    refine g_sub [0, 1, 2, 3, 4, 5, 6, 7] (lv' := [(0, .ref h0), (1, .int x1), (2, .int x2), (3, .int x3), (4, .int z.1), (5, .int z.2.1), (6, .int z.2.2.1), (7, .int x7)]) rfl ?_
    exact K2 (z.1, z.2.1, z.2.2.1, z.2.2.2.2) (Option.some.inj hf).symm
  · have hf := oneg c835 hf
    refine g_iload X dX8_best_82 7 rfl ?_
    obtain ⟨q824, hq824, hf⟩ := obind hf
    refine g_callS (gs' := [MO h0 h1 h2 h3 h4 h5 h6 h7 h8 v0, AI cy 107 h2 v2, AI cy 75 h7 v7, AI cy 3 h8 z.2.2.2.2]) (rest := []) X dX8_best_84 (c_X8_bits l D cy ad x7 hq824) mf_X8_bits ms_X8_bits lkm_X8_57 ⟨(Nat.le_of_ble_eq_true rfl), (Nat.le_of_ble_eq_true rfl), (Nat.le_of_ble_eq_true rfl), (Nat.le_of_ble_eq_true rfl)⟩ [0, 1, 2, 3] _ (by decide : [0, 1, 2, 3].Perm (List.range 4)) rfl (by decide : [0, 1, 2, 3].Perm (List.range 4)) rfl (Nat.le_of_ble_eq_true rfl) rfl ?_
    refine g_iload_n X dX8_best_87 1 rfl rfl ?_
    refine g_icmp_ne X 198 dX8_best_88 (by decide) (fun c834 => ?_) (fun c834 => ?_)
    · have hf := oneg c834 hf
      refine g_sub [0, 1, 2, 3, 4, 5, 6, 7] (lv' := [(0, .ref h0), (1, .int x1), (2, .int x2), (3, .int x3), (4, .int z.1), (5, .int z.2.1), (6, .int z.2.2.1), (7, .int x7)]) rfl ?_
      exact K2 (z.1, z.2.1, z.2.2.1, z.2.2.2.2) (Option.some.inj hf).symm
    · have hf := opos c834 hf
      refine g_iload X dX8_best_91 7 rfl ?_
      refine g_iload X dX8_best_93 8 rfl ?_
      refine g_iand X dX8_best_95 ?_
      refine g_if_ne X 192 dX8_best_96 (by decide) (fun c833 => ?_) (fun c833 => ?_)
      · have hf := oneg c833 hf
        exact j_X8_best_B76_b192 X hr v0 v2 v7 z.2.2.2.2 x1 x2 x3 z.1 z.2.1 z.2.2.1 x7 z.2.2.2.1 hf K1 K2
      · have hf := opos c833 hf
        refine g_iload X dX8_best_99 8 rfl ?_
        obtain ⟨q825, hq825, hf⟩ := obind hf
        refine g_callS (gs' := [MO h0 h1 h2 h3 h4 h5 h6 h7 h8 v0, AI cy 107 h2 v2, AI cy 75 h7 v7, AI cy 3 h8 z.2.2.2.2]) (rest := []) X dX8_best_101 (c_X8_bits l D cy ad z.2.2.2.1 hq825) mf_X8_bits ms_X8_bits lkm_X8_57 ⟨(Nat.le_of_ble_eq_true rfl), (Nat.le_of_ble_eq_true rfl), (Nat.le_of_ble_eq_true rfl), (Nat.le_of_ble_eq_true rfl)⟩ [0, 1, 2, 3] _ (by decide : [0, 1, 2, 3].Perm (List.range 4)) rfl (by decide : [0, 1, 2, 3].Perm (List.range 4)) rfl (Nat.le_of_ble_eq_true rfl) rfl ?_
        refine g_iload_n X dX8_best_104 1 rfl rfl ?_
        refine g_icmp_ne X 192 dX8_best_105 (by decide) (fun c832 => ?_) (fun c832 => ?_)
        · have hf := oneg c832 hf
          exact j_X8_best_B76_b192 X hr v0 v2 v7 z.2.2.2.2 x1 x2 x3 z.1 z.2.1 z.2.2.1 x7 z.2.2.2.1 hf K1 K2
        · have hf := opos c832 hf
          refine g_aload_n X dX8_best_108 0 rfl rfl ?_
          refine g_iload X dX8_best_109 7 rfl ?_
          refine g_iload X dX8_best_111 8 rfl ?_
          refine g_aload_n X dX8_best_113 0 rfl rfl ?_
          refine g_get X dX8_best_114 ck_X8 0 0 3 rfl rfl (Nat.le_of_ble_eq_true rfl) lkf_X8_13 rfl ?_
          refine g_iconst X (2 : Int32) dX8_best_117 (by decide) ?_
          refine g_iaload X dX8_best_118 1 0 rfl rfl (by decide) ?_
          refine g_aload_n X dX8_best_119 0 rfl rfl ?_
          refine g_get X dX8_best_120 ck_X8 0 0 3 rfl rfl (Nat.le_of_ble_eq_true rfl) lkf_X8_13 rfl ?_
          refine g_iconst X (3 : Int32) dX8_best_123 (by decide) ?_
          refine g_iaload X dX8_best_124 1 0 rfl rfl (by decide) ?_
          obtain ⟨q826, hq826, hf⟩ := obind hf
          refine g_callV (gs' := [MO h0 h1 h2 h3 h4 h5 h6 h7 h8 v0, AI cy 107 h2 v2, AI cy 75 h7 v7, AI cy 3 h8 q826.2]) (rest := []) X dX8_best_125 (c_X8_worst l D cy ad h0 h1 h2 h3 h4 h5 h6 h7 h8 v0 v7 z.2.2.2.2 x7 z.2.2.2.1 (v2 (2 : Int32).toNatClampNeg) (v2 (3 : Int32).toNatClampNeg) hq826) mf_X8_worst mv_X8_worst lkm_X8_196 ⟨(Nat.le_of_ble_eq_true rfl), (Nat.le_of_ble_eq_true rfl), (Nat.le_of_ble_eq_true rfl), (Nat.le_of_ble_eq_true rfl)⟩ 0 0 rfl rfl rfl rfl [0, 2, 3, 1] _ (by decide : [0, 2, 3, 1].Perm (List.range 4)) rfl (by decide : [0, 2, 3, 1].Perm (List.range 4)) rfl (Nat.le_of_ble_eq_true rfl) rfl ?_
          refine g_istore (lv' := [(0, .ref h0), (1, .int x1), (2, .int x2), (3, .int x3), (4, .int z.1), (5, .int z.2.1), (6, .int z.2.2.1), (7, .int x7), (8, .int z.2.2.2.1), (9, .int q826.1)]) X dX8_best_128 [1, 2, 3, 4, 5, 6, 7, 8, 9, 0] (Nat.le_of_ble_eq_true rfl) rfl ?_
          refine g_iload X dX8_best_130 6 rfl ?_
          refine g_iconst X (-1 : Int32) dX8_best_132 (by decide) ?_
          refine g_icmp_eq X 143 dX8_best_133 (by decide) (fun c831 => ?_) (fun c831 => ?_)
          · have hf := opos c831 hf
            exact j_X8_best_B76_b143 X hr v0 v2 v7 q826.2 x1 x2 x3 z.1 z.2.1 z.2.2.1 x7 z.2.2.2.1 q826.1 hf K1 K2
          · have hf := oneg c831 hf
            refine g_iload X dX8_best_136 9 rfl ?_
            refine g_iload X dX8_best_138 6 rfl ?_
            refine g_icmp_ge X 147 dX8_best_140 (by decide) (fun c830 => ?_) (fun c830 => ?_)
            · have hf := opos c830 hf
              refine g_iconst X (0 : Int32) dX8_best_147 (by decide) ?_
              exact j_X8_best_B76_b148 X hr v0 v2 v7 q826.2 x1 x2 x3 z.1 z.2.1 z.2.2.1 x7 z.2.2.2.1 q826.1 false hf K1 K2
            · have hf := oneg c830 hf
              exact j_X8_best_B76_b143 X hr v0 v2 v7 q826.2 x1 x2 x3 z.1 z.2.1 z.2.2.1 x7 z.2.2.2.1 q826.1 hf K1 K2
set_option maxRecDepth 100000 in
set_option maxHeartbeats 4000000 in
theorem w_X8_best_B76 {p : Program} {l : Launch} {e : Env} {s : State} {m : MethodId} {args : Array Value} {below : List Frame} {meth : Method} {c : Code} {A : Nat → Prop} {D : va_G} {cy : Nat → ClassId} {ad : (Nat → Nat) × (Nat → Nat)} {Q : State → Prop} (X : gK p s m args meth c A D cy ad cX8_best 11 RX8) (hr : meth.sig.returnType = (some .int)) {h0 h1 h2 h3 h4 h5 h6 h7 h8 : Nat} (v0 : MOv) (v2 : Fn) (v7 : Fn) (x1 : Int32) (x2 : Int32) (x3 : Int32) (x7 : Int32) {n : Nat} {z : Int32 × Int32 × Int32 × Int32 × Fn} {q : (Int32 × Int32 × Int32 × Fn)} (hf : itl (f_X8_best_B76 v0 v2 v7 x1 x2 x3 x7) n z = some q) (K2 : GW p l e rmX8_best s m args below meth c A D 11 0 0 Q 198 [(0, .ref h0), (1, .int x1), (2, .int x2), (3, .int x3), (4, .int q.1), (5, .int q.2.1), (6, .int q.2.2.1), (7, .int x7)] [] [MO h0 h1 h2 h3 h4 h5 h6 h7 h8 v0, AI cy 107 h2 v2, AI cy 75 h7 v7, AI cy 3 h8 q.2.2.2]) : GW p l e rmX8_best s m args below meth c A D 11 0 0 Q 76 [(0, .ref h0), (1, .int x1), (2, .int x2), (3, .int x3), (4, .int z.1), (5, .int z.2.1), (6, .int z.2.2.1), (7, .int x7), (8, .int z.2.2.2.1)] [] [MO h0 h1 h2 h3 h4 h5 h6 h7 h8 v0, AI cy 107 h2 v2, AI cy 75 h7 v7, AI cy 3 h8 z.2.2.2.2] :=
  itl_ind (f := f_X8_best_B76 v0 v2 v7 x1 x2 x3 x7) (I := fun z => GW p l e rmX8_best s m args below meth c A D 11 0 0 Q 76 [(0, .ref h0), (1, .int x1), (2, .int x2), (3, .int x3), (4, .int z.1), (5, .int z.2.1), (6, .int z.2.2.1), (7, .int x7), (8, .int z.2.2.2.1)] [] [MO h0 h1 h2 h3 h4 h5 h6 h7 h8 v0, AI cy 107 h2 v2, AI cy 75 h7 v7, AI cy 3 h8 z.2.2.2.2]) (J := (fun q => GW p l e rmX8_best s m args below meth c A D 11 0 0 Q 198 [(0, .ref h0), (1, .int x1), (2, .int x2), (3, .int x3), (4, .int q.1), (5, .int q.2.1), (6, .int q.2.2.1), (7, .int x7)] [] [MO h0 h1 h2 h3 h4 h5 h6 h7 h8 v0, AI cy 107 h2 v2, AI cy 75 h7 v7, AI cy 3 h8 q.2.2.2])) (fun z x h k1 k2 => b_X8_best_B76 X hr v0 v2 v7 x1 x2 x3 x7 z h (fun s' hs => k1 s' hs) (fun e' he => k2 e' he)) n z q hf K2
def f_X8_best_B67_b198 (v0 : MOv) (v2 : Fn) (v7 : Fn) (v8 : Fn) (x1 : Int32) (x2 : Int32) (x3 : Int32) (x4 : Int32) (x5 : Int32) (x6 : Int32) (x7 : Int32) : Option ((Int32 × Int32 × Int32 × Int32 × Fn) ⊕ ((Int32 × Int32 × Int32 × Fn))) :=
  some (.inl (x4, x5, x6, (x7 + (1 : Int32)), v8))
set_option maxRecDepth 100000 in
set_option maxHeartbeats 4000000 in
theorem j_X8_best_B67_b198 {p : Program} {l : Launch} {e : Env} {s : State} {m : MethodId} {args : Array Value} {below : List Frame} {meth : Method} {c : Code} {A : Nat → Prop} {D : va_G} {cy : Nat → ClassId} {ad : (Nat → Nat) × (Nat → Nat)} {Q : State → Prop} (X : gK p s m args meth c A D cy ad cX8_best 11 RX8) (hr : meth.sig.returnType = (some .int)) {h0 h1 h2 h3 h4 h5 h6 h7 h8 : Nat} (v0 : MOv) (v2 : Fn) (v7 : Fn) (v8 : Fn) (x1 : Int32) (x2 : Int32) (x3 : Int32) (x4 : Int32) (x5 : Int32) (x6 : Int32) (x7 : Int32) {q : (Int32 × Int32 × Int32 × Int32 × Fn) ⊕ ((Int32 × Int32 × Int32 × Fn))} (hf : f_X8_best_B67_b198 v0 v2 v7 v8 x1 x2 x3 x4 x5 x6 x7 = some q) (K1 : ∀ s' : Int32 × Int32 × Int32 × Int32 × Fn, q = .inl s' → GW p l e rmX8_best s m args below meth c A D 11 0 0 Q 67 [(0, .ref h0), (1, .int x1), (2, .int x2), (3, .int x3), (4, .int s'.1), (5, .int s'.2.1), (6, .int s'.2.2.1), (7, .int s'.2.2.2.1)] [] [MO h0 h1 h2 h3 h4 h5 h6 h7 h8 v0, AI cy 107 h2 v2, AI cy 75 h7 v7, AI cy 3 h8 s'.2.2.2.2]) (K2 : ∀ e' : Int32 × Int32 × Int32 × Fn, q = .inr (e') → GW p l e rmX8_best s m args below meth c A D 11 0 0 Q 204 [(2, .int x2), (4, .int e'.1), (5, .int e'.2.1), (6, .int e'.2.2.1)] [] [MO h0 h1 h2 h3 h4 h5 h6 h7 h8 v0, AI cy 107 h2 v2, AI cy 75 h7 v7, AI cy 3 h8 e'.2.2.2]) : GW p l e rmX8_best s m args below meth c A D 11 0 0 Q 198 [(0, .ref h0), (1, .int x1), (2, .int x2), (3, .int x3), (4, .int x4), (5, .int x5), (6, .int x6), (7, .int x7)] [] [MO h0 h1 h2 h3 h4 h5 h6 h7 h8 v0, AI cy 107 h2 v2, AI cy 75 h7 v7, AI cy 3 h8 v8] := by
  unfold f_X8_best_B67_b198 at hf
  refine g_iinc (lv' := [(0, .ref h0), (1, .int x1), (2, .int x2), (3, .int x3), (4, .int x4), (5, .int x5), (6, .int x6), (7, .int (x7 + (1 : Int32)))]) (v := (1 : Int32)) X dX8_best_198 7 rfl (by decide) [1, 2, 3, 4, 5, 6, 7, 0] (Nat.le_of_ble_eq_true rfl) rfl ?_
  refine g_goto X 67 dX8_best_201 (by decide) ?_
  exact K1 (x4, x5, x6, (x7 + (1 : Int32)), v8) (Option.some.inj hf).symm
def f_X8_best_B67 (v0 : MOv) (v2 : Fn) (v7 : Fn) (x1 : Int32) (x2 : Int32) (x3 : Int32) (z : Int32 × Int32 × Int32 × Int32 × Fn) : Option ((Int32 × Int32 × Int32 × Int32 × Fn) ⊕ ((Int32 × Int32 × Int32 × Fn))) :=
  if x3 ≤ z.2.2.2.1 then some (.inr ((z.1, z.2.1, z.2.2.1, z.2.2.2.2))) else (itl (f_X8_best_B76 v0 v2 v7 x1 x2 x3 z.2.2.2.1) FU (z.1, z.2.1, z.2.2.1, (0 : Int32), z.2.2.2.2)).bind (fun q836 => f_X8_best_B67_b198 v0 v2 v7 q836.2.2.2 x1 x2 x3 q836.1 q836.2.1 q836.2.2.1 z.2.2.2.1)
set_option maxRecDepth 100000 in
set_option maxHeartbeats 4000000 in
theorem b_X8_best_B67 {p : Program} {l : Launch} {e : Env} {s : State} {m : MethodId} {args : Array Value} {below : List Frame} {meth : Method} {c : Code} {A : Nat → Prop} {D : va_G} {cy : Nat → ClassId} {ad : (Nat → Nat) × (Nat → Nat)} {Q : State → Prop} (X : gK p s m args meth c A D cy ad cX8_best 11 RX8) (hr : meth.sig.returnType = (some .int)) {h0 h1 h2 h3 h4 h5 h6 h7 h8 : Nat} (v0 : MOv) (v2 : Fn) (v7 : Fn) (x1 : Int32) (x2 : Int32) (x3 : Int32) (z : Int32 × Int32 × Int32 × Int32 × Fn) {q : (Int32 × Int32 × Int32 × Int32 × Fn) ⊕ ((Int32 × Int32 × Int32 × Fn))} (hf : f_X8_best_B67 v0 v2 v7 x1 x2 x3 z = some q) (K1 : ∀ s' : Int32 × Int32 × Int32 × Int32 × Fn, q = .inl s' → GW p l e rmX8_best s m args below meth c A D 11 0 0 Q 67 [(0, .ref h0), (1, .int x1), (2, .int x2), (3, .int x3), (4, .int s'.1), (5, .int s'.2.1), (6, .int s'.2.2.1), (7, .int s'.2.2.2.1)] [] [MO h0 h1 h2 h3 h4 h5 h6 h7 h8 v0, AI cy 107 h2 v2, AI cy 75 h7 v7, AI cy 3 h8 s'.2.2.2.2]) (K2 : ∀ e' : Int32 × Int32 × Int32 × Fn, q = .inr (e') → GW p l e rmX8_best s m args below meth c A D 11 0 0 Q 204 [(2, .int x2), (4, .int e'.1), (5, .int e'.2.1), (6, .int e'.2.2.1)] [] [MO h0 h1 h2 h3 h4 h5 h6 h7 h8 v0, AI cy 107 h2 v2, AI cy 75 h7 v7, AI cy 3 h8 e'.2.2.2]) : GW p l e rmX8_best s m args below meth c A D 11 0 0 Q 67 [(0, .ref h0), (1, .int x1), (2, .int x2), (3, .int x3), (4, .int z.1), (5, .int z.2.1), (6, .int z.2.2.1), (7, .int z.2.2.2.1)] [] [MO h0 h1 h2 h3 h4 h5 h6 h7 h8 v0, AI cy 107 h2 v2, AI cy 75 h7 v7, AI cy 3 h8 z.2.2.2.2] := by
  unfold f_X8_best_B67 at hf
  refine g_iload X dX8_best_67 7 rfl ?_
  refine g_iload_n X dX8_best_69 3 rfl rfl ?_
  refine g_icmp_ge X 204 dX8_best_70 (by decide) (fun c837 => ?_) (fun c837 => ?_)
  · have hf := opos c837 hf
    refine g_sub [2, 4, 5, 6] (lv' := [(2, .int x2), (4, .int z.1), (5, .int z.2.1), (6, .int z.2.2.1)]) rfl ?_
    exact K2 (z.1, z.2.1, z.2.2.1, z.2.2.2.2) (Option.some.inj hf).symm
  · have hf := oneg c837 hf
    refine g_iconst X (0 : Int32) dX8_best_73 (by decide) ?_
    refine g_istore (lv' := [(0, .ref h0), (1, .int x1), (2, .int x2), (3, .int x3), (4, .int z.1), (5, .int z.2.1), (6, .int z.2.2.1), (7, .int z.2.2.2.1), (8, .int (0 : Int32))]) X dX8_best_74 [1, 2, 3, 4, 5, 6, 7, 8, 0] (Nat.le_of_ble_eq_true rfl) rfl ?_
    obtain ⟨q836, hq836, hf⟩ := obind hf
    refine w_X8_best_B76 X hr v0 v2 v7 x1 x2 x3 z.2.2.2.1 hq836 ?_
    exact j_X8_best_B67_b198 X hr v0 v2 v7 q836.2.2.2 x1 x2 x3 q836.1 q836.2.1 q836.2.2.1 z.2.2.2.1 hf K1 K2
set_option maxRecDepth 100000 in
set_option maxHeartbeats 4000000 in
theorem w_X8_best_B67 {p : Program} {l : Launch} {e : Env} {s : State} {m : MethodId} {args : Array Value} {below : List Frame} {meth : Method} {c : Code} {A : Nat → Prop} {D : va_G} {cy : Nat → ClassId} {ad : (Nat → Nat) × (Nat → Nat)} {Q : State → Prop} (X : gK p s m args meth c A D cy ad cX8_best 11 RX8) (hr : meth.sig.returnType = (some .int)) {h0 h1 h2 h3 h4 h5 h6 h7 h8 : Nat} (v0 : MOv) (v2 : Fn) (v7 : Fn) (x1 : Int32) (x2 : Int32) (x3 : Int32) {n : Nat} {z : Int32 × Int32 × Int32 × Int32 × Fn} {q : (Int32 × Int32 × Int32 × Fn)} (hf : itl (f_X8_best_B67 v0 v2 v7 x1 x2 x3) n z = some q) (K2 : GW p l e rmX8_best s m args below meth c A D 11 0 0 Q 204 [(2, .int x2), (4, .int q.1), (5, .int q.2.1), (6, .int q.2.2.1)] [] [MO h0 h1 h2 h3 h4 h5 h6 h7 h8 v0, AI cy 107 h2 v2, AI cy 75 h7 v7, AI cy 3 h8 q.2.2.2]) : GW p l e rmX8_best s m args below meth c A D 11 0 0 Q 67 [(0, .ref h0), (1, .int x1), (2, .int x2), (3, .int x3), (4, .int z.1), (5, .int z.2.1), (6, .int z.2.2.1), (7, .int z.2.2.2.1)] [] [MO h0 h1 h2 h3 h4 h5 h6 h7 h8 v0, AI cy 107 h2 v2, AI cy 75 h7 v7, AI cy 3 h8 z.2.2.2.2] :=
  itl_ind (f := f_X8_best_B67 v0 v2 v7 x1 x2 x3) (I := fun z => GW p l e rmX8_best s m args below meth c A D 11 0 0 Q 67 [(0, .ref h0), (1, .int x1), (2, .int x2), (3, .int x3), (4, .int z.1), (5, .int z.2.1), (6, .int z.2.2.1), (7, .int z.2.2.2.1)] [] [MO h0 h1 h2 h3 h4 h5 h6 h7 h8 v0, AI cy 107 h2 v2, AI cy 75 h7 v7, AI cy 3 h8 z.2.2.2.2]) (J := (fun q => GW p l e rmX8_best s m args below meth c A D 11 0 0 Q 204 [(2, .int x2), (4, .int q.1), (5, .int q.2.1), (6, .int q.2.2.1)] [] [MO h0 h1 h2 h3 h4 h5 h6 h7 h8 v0, AI cy 107 h2 v2, AI cy 75 h7 v7, AI cy 3 h8 q.2.2.2])) (fun z x h k1 k2 => b_X8_best_B67 X hr v0 v2 v7 x1 x2 x3 z h (fun s' hs => k1 s' hs) (fun e' he => k2 e' he)) n z q hf K2
def f_X8_best_b30 (v0 : MOv) (v2 : Fn) (v7 : Fn) (v8 : Fn) (x1 : Int32) (x2 : Int32) (y0 : Bool) : Option (Int32 × MOv × Fn × Fn) :=
  (f_X8_refused v0 (b2i y0)).bind (fun q822 => if (b2i q822.1) = 0 then (f_X8_gather q822.2 v7 v2).bind (fun q823 => (itl (f_X8_best_B67 q823.1 v2 q823.2 x1 x2 ((1 : Int32) <<< ((v2 (0 : Int32).toNatClampNeg) &&& 31))) FU ((-1 : Int32), (-1 : Int32), (-1 : Int32), (0 : Int32), v8)).bind (fun q838 => if x2 = 0 then some (q838.1, q823.1, q823.2, q838.2.2.2) else if x2 = (1 : Int32) then some (q838.2.1, q823.1, q823.2, q838.2.2.2) else some (q838.2.2.1, q823.1, q823.2, q838.2.2.2))) else some ((0 : Int32), q822.2, v7, v8))
set_option maxRecDepth 100000 in
set_option maxHeartbeats 4000000 in
theorem j_X8_best_b30 {p : Program} {l : Launch} {e : Env} {s : State} {m : MethodId} {args : Array Value} {below : List Frame} {meth : Method} {c : Code} {A : Nat → Prop} {D : va_G} {cy : Nat → ClassId} {ad : (Nat → Nat) × (Nat → Nat)} (X : gK p s m args meth c A D cy ad cX8_best 11 RX8) (hr : meth.sig.returnType = (some .int)) {h0 h1 h2 h3 h4 h5 h6 h7 h8 : Nat} (v0 : MOv) (v2 : Fn) (v7 : Fn) (v8 : Fn) (x1 : Int32) (x2 : Int32) (y0 : Bool) {q : Int32 × MOv × Fn × Fn} (hf : f_X8_best_b30 v0 v2 v7 v8 x1 x2 y0 = some q) : GW p l e rmX8_best s m args below meth c A D 11 0 0 (MQ below (cmQ D cy A (some (.int q.1)) ([MO h0 h1 h2 h3 h4 h5 h6 h7 h8 q.2.1, AI cy 107 h2 v2, AI cy 75 h7 q.2.2.1, AI cy 3 h8 q.2.2.2] : List va_W).flatten) args s 0 0 A) 30 [(0, .ref h0), (1, .int x1), (2, .int x2)] [.int (b2i y0), .ref h0] [MO h0 h1 h2 h3 h4 h5 h6 h7 h8 v0, AI cy 107 h2 v2, AI cy 75 h7 v7, AI cy 3 h8 v8] := by
  unfold f_X8_best_b30 at hf
  obtain ⟨q822, hq822, hf⟩ := obind hf
  refine g_callV (gs' := [MO h0 h1 h2 h3 h4 h5 h6 h7 h8 q822.2, AI cy 107 h2 v2, AI cy 75 h7 v7, AI cy 3 h8 v8]) (rest := []) X dX8_best_30 (c_X8_refused l D cy ad h0 h1 h2 h3 h4 h5 h6 h7 h8 v0 (b2i y0) hq822) mf_X8_refused mv_X8_refused lkm_X8_102 ⟨(Nat.le_of_ble_eq_true rfl), (Nat.le_of_ble_eq_true rfl), (Nat.le_of_ble_eq_true rfl), (Nat.le_of_ble_eq_true rfl)⟩ 0 0 rfl rfl rfl rfl [0, 1, 2, 3] _ (by decide : [0, 1, 2, 3].Perm (List.range 4)) rfl (by decide : [0, 1, 2, 3].Perm (List.range 4)) rfl (Nat.le_of_ble_eq_true rfl) rfl ?_
  refine g_if_eq X 38 dX8_best_33 (by decide) (fun c841 => ?_) (fun c841 => ?_)
  · have hf := opos c841 hf
    refine g_aload_n X dX8_best_38 0 rfl rfl ?_
    refine g_aload_n X dX8_best_39 0 rfl rfl ?_
    refine g_get X dX8_best_40 ck_X8 0 0 3 rfl rfl (Nat.le_of_ble_eq_true rfl) lkf_X8_13 rfl ?_
    obtain ⟨q823, hq823, hf⟩ := obind hf
    refine g_callV (gs' := [MO h0 h1 h2 h3 h4 h5 h6 h7 h8 q823.1, AI cy 107 h2 v2, AI cy 75 h7 q823.2, AI cy 3 h8 v8]) (rest := []) X dX8_best_43 (c_X8_gather l D cy ad h0 h1 h2 h3 h4 h5 h6 h7 h8 h2 q822.2 v7 v2 hq823) mf_X8_gather mv_X8_gather lkm_X8_193 ⟨(Nat.le_of_ble_eq_true rfl), (Nat.le_of_ble_eq_true rfl), (Nat.le_of_ble_eq_true rfl), (Nat.le_of_ble_eq_true rfl)⟩ 0 0 rfl rfl rfl rfl [0, 2, 1, 3] _ (by decide : [0, 2, 1, 3].Perm (List.range 4)) rfl (by decide : [0, 2, 1, 3].Perm (List.range 4)) rfl (Nat.le_of_ble_eq_true rfl) rfl ?_
    refine g_iconst X (1 : Int32) dX8_best_46 (by decide) ?_
    refine g_aload_n X dX8_best_47 0 rfl rfl ?_
    refine g_get X dX8_best_48 ck_X8 0 0 3 rfl rfl (Nat.le_of_ble_eq_true rfl) lkf_X8_13 rfl ?_
    refine g_iconst X (0 : Int32) dX8_best_51 (by decide) ?_
    refine g_iaload X dX8_best_52 1 0 rfl rfl (by decide) ?_
    refine g_ishl X dX8_best_53 ?_
    refine g_istore_n (lv' := [(0, .ref h0), (1, .int x1), (2, .int x2), (3, .int ((1 : Int32) <<< ((v2 (0 : Int32).toNatClampNeg) &&& 31)))]) X dX8_best_54 [1, 2, 3, 0] rfl (Nat.le_of_ble_eq_true rfl) rfl ?_
    refine g_iconst X (-1 : Int32) dX8_best_55 (by decide) ?_
    refine g_istore (lv' := [(0, .ref h0), (1, .int x1), (2, .int x2), (3, .int ((1 : Int32) <<< ((v2 (0 : Int32).toNatClampNeg) &&& 31))), (4, .int (-1 : Int32))]) X dX8_best_56 [1, 2, 3, 4, 0] (Nat.le_of_ble_eq_true rfl) rfl ?_
    refine g_iconst X (-1 : Int32) dX8_best_58 (by decide) ?_
    refine g_istore (lv' := [(0, .ref h0), (1, .int x1), (2, .int x2), (3, .int ((1 : Int32) <<< ((v2 (0 : Int32).toNatClampNeg) &&& 31))), (4, .int (-1 : Int32)), (5, .int (-1 : Int32))]) X dX8_best_59 [1, 2, 3, 4, 5, 0] (Nat.le_of_ble_eq_true rfl) rfl ?_
    refine g_iconst X (-1 : Int32) dX8_best_61 (by decide) ?_
    refine g_istore (lv' := [(0, .ref h0), (1, .int x1), (2, .int x2), (3, .int ((1 : Int32) <<< ((v2 (0 : Int32).toNatClampNeg) &&& 31))), (4, .int (-1 : Int32)), (5, .int (-1 : Int32)), (6, .int (-1 : Int32))]) X dX8_best_62 [1, 2, 3, 4, 5, 6, 0] (Nat.le_of_ble_eq_true rfl) rfl ?_
    refine g_iconst X (0 : Int32) dX8_best_64 (by decide) ?_
    refine g_istore (lv' := [(0, .ref h0), (1, .int x1), (2, .int x2), (3, .int ((1 : Int32) <<< ((v2 (0 : Int32).toNatClampNeg) &&& 31))), (4, .int (-1 : Int32)), (5, .int (-1 : Int32)), (6, .int (-1 : Int32)), (7, .int (0 : Int32))]) X dX8_best_65 [1, 2, 3, 4, 5, 6, 7, 0] (Nat.le_of_ble_eq_true rfl) rfl ?_
    obtain ⟨q838, hq838, hf⟩ := obind hf
    refine w_X8_best_B67 X hr q823.1 v2 q823.2 x1 x2 ((1 : Int32) <<< ((v2 (0 : Int32).toNatClampNeg) &&& 31)) hq838 ?_
    refine g_iload_n X dX8_best_204 0 rfl rfl ?_
    refine g_if_ne X 213 dX8_best_205 (by decide) (fun c840 => ?_) (fun c840 => ?_)
    · have hf := oneg c840 hf
      refine g_iload_n X dX8_best_213 0 rfl rfl ?_
      refine g_iconst X (1 : Int32) dX8_best_214 (by decide) ?_
      refine g_icmp_ne X 223 dX8_best_215 (by decide) (fun c839 => ?_) (fun c839 => ?_)
      · have hf := oneg c839 hf
        refine g_iload X dX8_best_223 3 rfl ?_
        have hf := Option.some.inj hf
        subst hf
        exact g_iret X hr dX8_best_225
      · have hf := opos c839 hf
        refine g_iload X dX8_best_218 2 rfl ?_
        refine g_goto X 225 dX8_best_220 (by decide) ?_
        have hf := Option.some.inj hf
        subst hf
        exact g_iret X hr dX8_best_225
    · have hf := opos c840 hf
      refine g_iload X dX8_best_208 1 rfl ?_
      refine g_goto X 225 dX8_best_210 (by decide) ?_
      have hf := Option.some.inj hf
      subst hf
      exact g_iret X hr dX8_best_225
  · have hf := oneg c841 hf
    refine g_iconst X (0 : Int32) dX8_best_36 (by decide) ?_
    have hf := Option.some.inj hf
    subst hf
    exact g_iret X hr dX8_best_37
def f_X8_best_b29 (v0 : MOv) (v2 : Fn) (v7 : Fn) (v8 : Fn) (x1 : Int32) (x2 : Int32) : Option (Int32 × MOv × Fn × Fn) :=
  f_X8_best_b30 v0 v2 v7 v8 x1 x2 true
set_option maxRecDepth 100000 in
set_option maxHeartbeats 4000000 in
theorem j_X8_best_b29 {p : Program} {l : Launch} {e : Env} {s : State} {m : MethodId} {args : Array Value} {below : List Frame} {meth : Method} {c : Code} {A : Nat → Prop} {D : va_G} {cy : Nat → ClassId} {ad : (Nat → Nat) × (Nat → Nat)} (X : gK p s m args meth c A D cy ad cX8_best 11 RX8) (hr : meth.sig.returnType = (some .int)) {h0 h1 h2 h3 h4 h5 h6 h7 h8 : Nat} (v0 : MOv) (v2 : Fn) (v7 : Fn) (v8 : Fn) (x1 : Int32) (x2 : Int32) {q : Int32 × MOv × Fn × Fn} (hf : f_X8_best_b29 v0 v2 v7 v8 x1 x2 = some q) : GW p l e rmX8_best s m args below meth c A D 11 0 0 (MQ below (cmQ D cy A (some (.int q.1)) ([MO h0 h1 h2 h3 h4 h5 h6 h7 h8 q.2.1, AI cy 107 h2 v2, AI cy 75 h7 q.2.2.1, AI cy 3 h8 q.2.2.2] : List va_W).flatten) args s 0 0 A) 29 [(0, .ref h0), (1, .int x1), (2, .int x2)] [.ref h0] [MO h0 h1 h2 h3 h4 h5 h6 h7 h8 v0, AI cy 107 h2 v2, AI cy 75 h7 v7, AI cy 3 h8 v8] := by
  unfold f_X8_best_b29 at hf
  refine g_iconst X (1 : Int32) dX8_best_29 (by decide) ?_
  exact j_X8_best_b30 X hr v0 v2 v7 v8 x1 x2 true hf
def f_X8_best (v0 : MOv) (v2 : Fn) (v7 : Fn) (v8 : Fn) (p1 : Int32) (p2 : Int32) : Option (Int32 × MOv × Fn × Fn) :=
  (f_X8_in (p1.toInt64) (1 : Int64) (2 : Int64)).bind (fun q821 => if (b2i q821) = 0 then f_X8_best_b29 v0 v2 v7 v8 p1 p2 else (f_X8_in (p2.toInt64) (0 : Int64) (2 : Int64)).bind (fun q842 => if (b2i q842) = 0 then f_X8_best_b29 v0 v2 v7 v8 p1 p2 else f_X8_best_b30 v0 v2 v7 v8 p1 p2 false))
set_option maxRecDepth 100000 in
set_option maxHeartbeats 4000000 in
theorem c_X8_best (l : Launch) (D : va_G) (cy : Nat → ClassId) (ad : (Nat → Nat) × (Nat → Nat)) (h0 h1 h2 h3 h4 h5 h6 h7 h8 : Nat) (v0 : MOv) (v2 : Fn) (v7 : Fn) (v8 : Fn) (p1 : Int32) (p2 : Int32) {q : Int32 × MOv × Fn × Fn} (hf : f_X8_best v0 v2 v7 v8 p1 p2 = some q) : CM l yX8_best cX8_best 11 (some .int) rmX8_best D cy ad [.ref h0, .int p1, .int p2] [MO h0 h1 h2 h3 h4 h5 h6 h7 h8 v0, AI cy 107 h2 v2, AI cy 75 h7 v7, AI cy 3 h8 v8] (some (.int q.1)) [MO h0 h1 h2 h3 h4 h5 h6 h7 h8 q.2.1, AI cy 107 h2 v2, AI cy 75 h7 q.2.2.1, AI cy 3 h8 q.2.2.2] := by
  refine cm_of (lv0 := [(0, .ref h0), (1, .int p1), (2, .int p2)]) (by decide) (Nat.le_of_ble_eq_true rfl) rfl ?_
  intro p e s m args below meth c A X hr hn
  have X : gK p s m args meth c A D cy ad cX8_best 11 RX8 := X
  unfold f_X8_best at hf
  refine g_aload_n X dX8_best_0 0 rfl rfl ?_
  refine g_iload_n X dX8_best_1 1 rfl rfl ?_
  refine g_i2l X dX8_best_2 ?_
  refine g_lconst X (1 : Int64) dX8_best_3 (by decide) ?_
  refine g_ldc2 X lkl_X8_188 dX8_best_4 ?_
  obtain ⟨q821, hq821, hf⟩ := obind hf
  refine g_callS (gs' := [MO h0 h1 h2 h3 h4 h5 h6 h7 h8 v0, AI cy 107 h2 v2, AI cy 75 h7 v7, AI cy 3 h8 v8]) (rest := [.ref h0]) X dX8_best_7 (c_X8_in l D cy ad (p1.toInt64) (1 : Int64) (2 : Int64) hq821) mf_X8_in ms_X8_in lkm_X8_43 ⟨(Nat.le_of_ble_eq_true rfl), (Nat.le_of_ble_eq_true rfl), (Nat.le_of_ble_eq_true rfl), (Nat.le_of_ble_eq_true rfl)⟩ [0, 1, 2, 3] _ (by decide : [0, 1, 2, 3].Perm (List.range 4)) rfl (by decide : [0, 1, 2, 3].Perm (List.range 4)) rfl (Nat.le_of_ble_eq_true rfl) rfl ?_
  refine g_if_eq X 29 dX8_best_10 (by decide) (fun c844 => ?_) (fun c844 => ?_)
  · have hf := opos c844 hf
    exact j_X8_best_b29 X hr v0 v2 v7 v8 p1 p2 hf
  · have hf := oneg c844 hf
    refine g_iload_n X dX8_best_13 2 rfl rfl ?_
    refine g_i2l X dX8_best_14 ?_
    refine g_lconst X (0 : Int64) dX8_best_15 (by decide) ?_
    refine g_ldc2 X lkl_X8_188 dX8_best_16 ?_
    obtain ⟨q842, hq842, hf⟩ := obind hf
    refine g_callS (gs' := [MO h0 h1 h2 h3 h4 h5 h6 h7 h8 v0, AI cy 107 h2 v2, AI cy 75 h7 v7, AI cy 3 h8 v8]) (rest := [.ref h0]) X dX8_best_19 (c_X8_in l D cy ad (p2.toInt64) (0 : Int64) (2 : Int64) hq842) mf_X8_in ms_X8_in lkm_X8_43 ⟨(Nat.le_of_ble_eq_true rfl), (Nat.le_of_ble_eq_true rfl), (Nat.le_of_ble_eq_true rfl), (Nat.le_of_ble_eq_true rfl)⟩ [0, 1, 2, 3] _ (by decide : [0, 1, 2, 3].Perm (List.range 4)) rfl (by decide : [0, 1, 2, 3].Perm (List.range 4)) rfl (Nat.le_of_ble_eq_true rfl) rfl ?_
    refine g_if_eq X 29 dX8_best_22 (by decide) (fun c843 => ?_) (fun c843 => ?_)
    · have hf := opos c843 hf
      exact j_X8_best_b29 X hr v0 v2 v7 v8 p1 p2 hf
    · have hf := oneg c843 hf
      refine g_iconst X (0 : Int32) dX8_best_25 (by decide) ?_
      refine g_goto X 30 dX8_best_26 (by decide) ?_
      exact j_X8_best_b30 X hr v0 v2 v7 v8 p1 p2 false hf
abbrev rmX8_sharpest : Room := ({ frames := 5, cells := 0, slots := 0, locals := 116 } : Room)
def f_X8_sharpest_B32_b172 (v0 : MOv) (v2 : Fn) (v7 : Fn) (v8 : Fn) (x1 : Int32) (x2 : Int32) (x3 : Int32) (x4 : Int32) : Option ((Int32 × Int32 × Int32 × Fn) ⊕ ((Int32 × Int32 × Fn))) :=
  some (.inl (x1, x2, (x4 + (1 : Int32)), v8))
set_option maxRecDepth 100000 in
set_option maxHeartbeats 4000000 in
theorem j_X8_sharpest_B32_b172 {p : Program} {l : Launch} {e : Env} {s : State} {m : MethodId} {args : Array Value} {below : List Frame} {meth : Method} {c : Code} {A : Nat → Prop} {D : va_G} {cy : Nat → ClassId} {ad : (Nat → Nat) × (Nat → Nat)} {Q : State → Prop} (X : gK p s m args meth c A D cy ad cX8_sharpest 6 RX8) (hr : meth.sig.returnType = (some .int)) {h0 h1 h2 h3 h4 h5 h6 h7 h8 : Nat} (v0 : MOv) (v2 : Fn) (v7 : Fn) (v8 : Fn) (x1 : Int32) (x2 : Int32) (x3 : Int32) (x4 : Int32) {q : (Int32 × Int32 × Int32 × Fn) ⊕ ((Int32 × Int32 × Fn))} (hf : f_X8_sharpest_B32_b172 v0 v2 v7 v8 x1 x2 x3 x4 = some q) (K1 : ∀ s' : Int32 × Int32 × Int32 × Fn, q = .inl s' → GW p l e rmX8_sharpest s m args below meth c A D 6 0 0 Q 32 [(0, .ref h0), (1, .int s'.1), (2, .int s'.2.1), (3, .int x3), (4, .int s'.2.2.1)] [] [MO h0 h1 h2 h3 h4 h5 h6 h7 h8 v0, AI cy 107 h2 v2, AI cy 75 h7 v7, AI cy 3 h8 s'.2.2.2]) (K2 : ∀ e' : Int32 × Int32 × Fn, q = .inr (e') → GW p l e rmX8_sharpest s m args below meth c A D 6 0 0 Q 178 [(0, .ref h0), (1, .int e'.1), (2, .int e'.2.1), (3, .int x3)] [] [MO h0 h1 h2 h3 h4 h5 h6 h7 h8 v0, AI cy 107 h2 v2, AI cy 75 h7 v7, AI cy 3 h8 e'.2.2]) : GW p l e rmX8_sharpest s m args below meth c A D 6 0 0 Q 172 [(0, .ref h0), (1, .int x1), (2, .int x2), (3, .int x3), (4, .int x4)] [] [MO h0 h1 h2 h3 h4 h5 h6 h7 h8 v0, AI cy 107 h2 v2, AI cy 75 h7 v7, AI cy 3 h8 v8] := by
  unfold f_X8_sharpest_B32_b172 at hf
  refine g_iinc (lv' := [(0, .ref h0), (1, .int x1), (2, .int x2), (3, .int x3), (4, .int (x4 + (1 : Int32)))]) (v := (1 : Int32)) X dX8_sharpest_172 4 rfl (by decide) [1, 2, 3, 4, 0] (Nat.le_of_ble_eq_true rfl) rfl ?_
  refine g_goto X 32 dX8_sharpest_175 (by decide) ?_
  exact K1 (x1, x2, (x4 + (1 : Int32)), v8) (Option.some.inj hf).symm
def f_X8_sharpest_B32_b171 (v0 : MOv) (v2 : Fn) (v7 : Fn) (v8 : Fn) (x1 : Int32) (x3 : Int32) (x4 : Int32) (y0 : Int32) : Option ((Int32 × Int32 × Int32 × Fn) ⊕ ((Int32 × Int32 × Fn))) :=
  f_X8_sharpest_B32_b172 v0 v2 v7 v8 x1 y0 x3 x4
set_option maxRecDepth 100000 in
set_option maxHeartbeats 4000000 in
theorem j_X8_sharpest_B32_b171 {p : Program} {l : Launch} {e : Env} {s : State} {m : MethodId} {args : Array Value} {below : List Frame} {meth : Method} {c : Code} {A : Nat → Prop} {D : va_G} {cy : Nat → ClassId} {ad : (Nat → Nat) × (Nat → Nat)} {Q : State → Prop} (X : gK p s m args meth c A D cy ad cX8_sharpest 6 RX8) (hr : meth.sig.returnType = (some .int)) {h0 h1 h2 h3 h4 h5 h6 h7 h8 : Nat} (v0 : MOv) (v2 : Fn) (v7 : Fn) (v8 : Fn) (x1 : Int32) (x3 : Int32) (x4 : Int32) (y0 : Int32) {q : (Int32 × Int32 × Int32 × Fn) ⊕ ((Int32 × Int32 × Fn))} (hf : f_X8_sharpest_B32_b171 v0 v2 v7 v8 x1 x3 x4 y0 = some q) (K1 : ∀ s' : Int32 × Int32 × Int32 × Fn, q = .inl s' → GW p l e rmX8_sharpest s m args below meth c A D 6 0 0 Q 32 [(0, .ref h0), (1, .int s'.1), (2, .int s'.2.1), (3, .int x3), (4, .int s'.2.2.1)] [] [MO h0 h1 h2 h3 h4 h5 h6 h7 h8 v0, AI cy 107 h2 v2, AI cy 75 h7 v7, AI cy 3 h8 s'.2.2.2]) (K2 : ∀ e' : Int32 × Int32 × Fn, q = .inr (e') → GW p l e rmX8_sharpest s m args below meth c A D 6 0 0 Q 178 [(0, .ref h0), (1, .int e'.1), (2, .int e'.2.1), (3, .int x3)] [] [MO h0 h1 h2 h3 h4 h5 h6 h7 h8 v0, AI cy 107 h2 v2, AI cy 75 h7 v7, AI cy 3 h8 e'.2.2]) : GW p l e rmX8_sharpest s m args below meth c A D 6 0 0 Q 171 [(0, .ref h0), (1, .int x1), (3, .int x3), (4, .int x4)] [.int y0] [MO h0 h1 h2 h3 h4 h5 h6 h7 h8 v0, AI cy 107 h2 v2, AI cy 75 h7 v7, AI cy 3 h8 v8] := by
  unfold f_X8_sharpest_B32_b171 at hf
  refine g_istore_n (lv' := [(0, .ref h0), (1, .int x1), (2, .int y0), (3, .int x3), (4, .int x4)]) X dX8_sharpest_171 [1, 2, 0, 3, 4] rfl (Nat.le_of_ble_eq_true rfl) rfl ?_
  exact j_X8_sharpest_B32_b172 X hr v0 v2 v7 v8 x1 y0 x3 x4 hf K1 K2
def f_X8_sharpest_B32_b158 (v0 : MOv) (v2 : Fn) (v7 : Fn) (v8 : Fn) (x2 : Int32) (x3 : Int32) (x4 : Int32) (x5 : Int32) (y0 : Int32) : Option ((Int32 × Int32 × Int32 × Fn) ⊕ ((Int32 × Int32 × Fn))) :=
  if x5 ≤ x2 then f_X8_sharpest_B32_b171 v0 v2 v7 v8 y0 x3 x4 x2 else f_X8_sharpest_B32_b171 v0 v2 v7 v8 y0 x3 x4 x5
set_option maxRecDepth 100000 in
set_option maxHeartbeats 4000000 in
theorem j_X8_sharpest_B32_b158 {p : Program} {l : Launch} {e : Env} {s : State} {m : MethodId} {args : Array Value} {below : List Frame} {meth : Method} {c : Code} {A : Nat → Prop} {D : va_G} {cy : Nat → ClassId} {ad : (Nat → Nat) × (Nat → Nat)} {Q : State → Prop} (X : gK p s m args meth c A D cy ad cX8_sharpest 6 RX8) (hr : meth.sig.returnType = (some .int)) {h0 h1 h2 h3 h4 h5 h6 h7 h8 : Nat} (v0 : MOv) (v2 : Fn) (v7 : Fn) (v8 : Fn) (x2 : Int32) (x3 : Int32) (x4 : Int32) (x5 : Int32) (y0 : Int32) {q : (Int32 × Int32 × Int32 × Fn) ⊕ ((Int32 × Int32 × Fn))} (hf : f_X8_sharpest_B32_b158 v0 v2 v7 v8 x2 x3 x4 x5 y0 = some q) (K1 : ∀ s' : Int32 × Int32 × Int32 × Fn, q = .inl s' → GW p l e rmX8_sharpest s m args below meth c A D 6 0 0 Q 32 [(0, .ref h0), (1, .int s'.1), (2, .int s'.2.1), (3, .int x3), (4, .int s'.2.2.1)] [] [MO h0 h1 h2 h3 h4 h5 h6 h7 h8 v0, AI cy 107 h2 v2, AI cy 75 h7 v7, AI cy 3 h8 s'.2.2.2]) (K2 : ∀ e' : Int32 × Int32 × Fn, q = .inr (e') → GW p l e rmX8_sharpest s m args below meth c A D 6 0 0 Q 178 [(0, .ref h0), (1, .int e'.1), (2, .int e'.2.1), (3, .int x3)] [] [MO h0 h1 h2 h3 h4 h5 h6 h7 h8 v0, AI cy 107 h2 v2, AI cy 75 h7 v7, AI cy 3 h8 e'.2.2]) : GW p l e rmX8_sharpest s m args below meth c A D 6 0 0 Q 158 [(0, .ref h0), (2, .int x2), (3, .int x3), (4, .int x4), (5, .int x5)] [.int y0] [MO h0 h1 h2 h3 h4 h5 h6 h7 h8 v0, AI cy 107 h2 v2, AI cy 75 h7 v7, AI cy 3 h8 v8] := by
  unfold f_X8_sharpest_B32_b158 at hf
  refine g_istore_n (lv' := [(0, .ref h0), (1, .int y0), (2, .int x2), (3, .int x3), (4, .int x4), (5, .int x5)]) X dX8_sharpest_158 [1, 0, 2, 3, 4, 5] rfl (Nat.le_of_ble_eq_true rfl) rfl ?_
  refine g_iload X dX8_sharpest_159 5 rfl ?_
  refine g_iload_n X dX8_sharpest_161 2 rfl rfl ?_
  refine g_icmp_le X 170 dX8_sharpest_162 (by decide) (fun c851 => ?_) (fun c851 => ?_)
  · have hf := opos c851 hf
    refine g_iload_n X dX8_sharpest_170 2 rfl rfl ?_
    refine g_sub [0, 1, 3, 4] (lv' := [(0, .ref h0), (1, .int y0), (3, .int x3), (4, .int x4)]) rfl ?_
    exact j_X8_sharpest_B32_b171 X hr v0 v2 v7 v8 y0 x3 x4 x2 hf K1 K2
  · have hf := oneg c851 hf
    refine g_iload X dX8_sharpest_165 5 rfl ?_
    refine g_goto X 171 dX8_sharpest_167 (by decide) ?_
    refine g_sub [0, 1, 3, 4] (lv' := [(0, .ref h0), (1, .int y0), (3, .int x3), (4, .int x4)]) rfl ?_
    exact j_X8_sharpest_B32_b171 X hr v0 v2 v7 v8 y0 x3 x4 x5 hf K1 K2
def f_X8_sharpest_B32_b141 (v0 : MOv) (v2 : Fn) (v7 : Fn) (v8 : Fn) (x1 : Int32) (x2 : Int32) (x3 : Int32) (x4 : Int32) (x5 : Int32) : Option ((Int32 × Int32 × Int32 × Fn) ⊕ ((Int32 × Int32 × Fn))) :=
  if x5 ≤ x2 then f_X8_sharpest_B32_b158 v0 v2 v7 v8 x2 x3 x4 x5 x1 else f_X8_sharpest_B32_b158 v0 v2 v7 v8 x2 x3 x4 x5 (((100 : Int32) * x3) + x4)
set_option maxRecDepth 100000 in
set_option maxHeartbeats 4000000 in
theorem j_X8_sharpest_B32_b141 {p : Program} {l : Launch} {e : Env} {s : State} {m : MethodId} {args : Array Value} {below : List Frame} {meth : Method} {c : Code} {A : Nat → Prop} {D : va_G} {cy : Nat → ClassId} {ad : (Nat → Nat) × (Nat → Nat)} {Q : State → Prop} (X : gK p s m args meth c A D cy ad cX8_sharpest 6 RX8) (hr : meth.sig.returnType = (some .int)) {h0 h1 h2 h3 h4 h5 h6 h7 h8 : Nat} (v0 : MOv) (v2 : Fn) (v7 : Fn) (v8 : Fn) (x1 : Int32) (x2 : Int32) (x3 : Int32) (x4 : Int32) (x5 : Int32) {q : (Int32 × Int32 × Int32 × Fn) ⊕ ((Int32 × Int32 × Fn))} (hf : f_X8_sharpest_B32_b141 v0 v2 v7 v8 x1 x2 x3 x4 x5 = some q) (K1 : ∀ s' : Int32 × Int32 × Int32 × Fn, q = .inl s' → GW p l e rmX8_sharpest s m args below meth c A D 6 0 0 Q 32 [(0, .ref h0), (1, .int s'.1), (2, .int s'.2.1), (3, .int x3), (4, .int s'.2.2.1)] [] [MO h0 h1 h2 h3 h4 h5 h6 h7 h8 v0, AI cy 107 h2 v2, AI cy 75 h7 v7, AI cy 3 h8 s'.2.2.2]) (K2 : ∀ e' : Int32 × Int32 × Fn, q = .inr (e') → GW p l e rmX8_sharpest s m args below meth c A D 6 0 0 Q 178 [(0, .ref h0), (1, .int e'.1), (2, .int e'.2.1), (3, .int x3)] [] [MO h0 h1 h2 h3 h4 h5 h6 h7 h8 v0, AI cy 107 h2 v2, AI cy 75 h7 v7, AI cy 3 h8 e'.2.2]) : GW p l e rmX8_sharpest s m args below meth c A D 6 0 0 Q 141 [(0, .ref h0), (1, .int x1), (2, .int x2), (3, .int x3), (4, .int x4), (5, .int x5)] [] [MO h0 h1 h2 h3 h4 h5 h6 h7 h8 v0, AI cy 107 h2 v2, AI cy 75 h7 v7, AI cy 3 h8 v8] := by
  unfold f_X8_sharpest_B32_b141 at hf
  refine g_iload X dX8_sharpest_141 5 rfl ?_
  refine g_iload_n X dX8_sharpest_143 2 rfl rfl ?_
  refine g_icmp_le X 157 dX8_sharpest_144 (by decide) (fun c852 => ?_) (fun c852 => ?_)
  · have hf := opos c852 hf
    refine g_iload_n X dX8_sharpest_157 1 rfl rfl ?_
    refine g_sub [0, 2, 3, 4, 5] (lv' := [(0, .ref h0), (2, .int x2), (3, .int x3), (4, .int x4), (5, .int x5)]) rfl ?_
    exact j_X8_sharpest_B32_b158 X hr v0 v2 v7 v8 x2 x3 x4 x5 x1 hf K1 K2
  · have hf := oneg c852 hf
    refine g_bipush X (100 : Int32) dX8_sharpest_147 (by decide) ?_
    refine g_iload_n X dX8_sharpest_149 3 rfl rfl ?_
    refine g_imul X dX8_sharpest_150 ?_
    refine g_iload X dX8_sharpest_151 4 rfl ?_
    refine g_iadd X dX8_sharpest_153 ?_
    refine g_goto X 158 dX8_sharpest_154 (by decide) ?_
    refine g_sub [0, 2, 3, 4, 5] (lv' := [(0, .ref h0), (2, .int x2), (3, .int x3), (4, .int x4), (5, .int x5)]) rfl ?_
    exact j_X8_sharpest_B32_b158 X hr v0 v2 v7 v8 x2 x3 x4 x5 (((100 : Int32) * x3) + x4) hf K1 K2
def f_X8_sharpest_B32_b82 (v0 : MOv) (v2 : Fn) (v7 : Fn) (v8 : Fn) (x1 : Int32) (x2 : Int32) (x3 : Int32) (x4 : Int32) (y0 : Int32) (y1 : Int32) : Option ((Int32 × Int32 × Int32 × Fn) ⊕ ((Int32 × Int32 × Fn))) :=
  (f_X8_worst v0 v7 v8 y1 y0 (v2 (2 : Int32).toNatClampNeg) (v2 (3 : Int32).toNatClampNeg)).bind (fun q850 => f_X8_sharpest_B32_b141 v0 v2 v7 q850.2 x1 x2 x3 x4 ((((q850.2 (0 : Int32).toNatClampNeg) * (q850.2 (1 : Int32).toNatClampNeg)) + ((q850.2 (0 : Int32).toNatClampNeg) * (q850.2 (2 : Int32).toNatClampNeg))) + ((q850.2 (1 : Int32).toNatClampNeg) * (q850.2 (2 : Int32).toNatClampNeg))))
set_option maxRecDepth 100000 in
set_option maxHeartbeats 4000000 in
theorem j_X8_sharpest_B32_b82 {p : Program} {l : Launch} {e : Env} {s : State} {m : MethodId} {args : Array Value} {below : List Frame} {meth : Method} {c : Code} {A : Nat → Prop} {D : va_G} {cy : Nat → ClassId} {ad : (Nat → Nat) × (Nat → Nat)} {Q : State → Prop} (X : gK p s m args meth c A D cy ad cX8_sharpest 6 RX8) (hr : meth.sig.returnType = (some .int)) {h0 h1 h2 h3 h4 h5 h6 h7 h8 : Nat} (v0 : MOv) (v2 : Fn) (v7 : Fn) (v8 : Fn) (x1 : Int32) (x2 : Int32) (x3 : Int32) (x4 : Int32) (y0 : Int32) (y1 : Int32) {q : (Int32 × Int32 × Int32 × Fn) ⊕ ((Int32 × Int32 × Fn))} (hf : f_X8_sharpest_B32_b82 v0 v2 v7 v8 x1 x2 x3 x4 y0 y1 = some q) (K1 : ∀ s' : Int32 × Int32 × Int32 × Fn, q = .inl s' → GW p l e rmX8_sharpest s m args below meth c A D 6 0 0 Q 32 [(0, .ref h0), (1, .int s'.1), (2, .int s'.2.1), (3, .int x3), (4, .int s'.2.2.1)] [] [MO h0 h1 h2 h3 h4 h5 h6 h7 h8 v0, AI cy 107 h2 v2, AI cy 75 h7 v7, AI cy 3 h8 s'.2.2.2]) (K2 : ∀ e' : Int32 × Int32 × Fn, q = .inr (e') → GW p l e rmX8_sharpest s m args below meth c A D 6 0 0 Q 178 [(0, .ref h0), (1, .int e'.1), (2, .int e'.2.1), (3, .int x3)] [] [MO h0 h1 h2 h3 h4 h5 h6 h7 h8 v0, AI cy 107 h2 v2, AI cy 75 h7 v7, AI cy 3 h8 e'.2.2]) : GW p l e rmX8_sharpest s m args below meth c A D 6 0 0 Q 82 [(0, .ref h0), (1, .int x1), (2, .int x2), (3, .int x3), (4, .int x4)] [.int y0, .int y1, .ref h0] [MO h0 h1 h2 h3 h4 h5 h6 h7 h8 v0, AI cy 107 h2 v2, AI cy 75 h7 v7, AI cy 3 h8 v8] := by
  unfold f_X8_sharpest_B32_b82 at hf
  refine g_aload_n X dX8_sharpest_82 0 rfl rfl ?_
  refine g_get X dX8_sharpest_83 ck_X8 0 0 3 rfl rfl (Nat.le_of_ble_eq_true rfl) lkf_X8_13 rfl ?_
  refine g_iconst X (2 : Int32) dX8_sharpest_86 (by decide) ?_
  refine g_iaload X dX8_sharpest_87 1 0 rfl rfl (by decide) ?_
  refine g_aload_n X dX8_sharpest_88 0 rfl rfl ?_
  refine g_get X dX8_sharpest_89 ck_X8 0 0 3 rfl rfl (Nat.le_of_ble_eq_true rfl) lkf_X8_13 rfl ?_
  refine g_iconst X (3 : Int32) dX8_sharpest_92 (by decide) ?_
  refine g_iaload X dX8_sharpest_93 1 0 rfl rfl (by decide) ?_
  obtain ⟨q850, hq850, hf⟩ := obind hf
  refine g_callV (gs' := [MO h0 h1 h2 h3 h4 h5 h6 h7 h8 v0, AI cy 107 h2 v2, AI cy 75 h7 v7, AI cy 3 h8 q850.2]) (rest := []) X dX8_sharpest_94 (c_X8_worst l D cy ad h0 h1 h2 h3 h4 h5 h6 h7 h8 v0 v7 v8 y1 y0 (v2 (2 : Int32).toNatClampNeg) (v2 (3 : Int32).toNatClampNeg) hq850) mf_X8_worst mv_X8_worst lkm_X8_196 ⟨(Nat.le_of_ble_eq_true rfl), (Nat.le_of_ble_eq_true rfl), (Nat.le_of_ble_eq_true rfl), (Nat.le_of_ble_eq_true rfl)⟩ 0 0 rfl rfl rfl rfl [0, 2, 3, 1] _ (by decide : [0, 2, 3, 1].Perm (List.range 4)) rfl (by decide : [0, 2, 3, 1].Perm (List.range 4)) rfl (Nat.le_of_ble_eq_true rfl) rfl ?_
  refine g_pop X dX8_sharpest_97 rfl ?_
  refine g_aload_n X dX8_sharpest_98 0 rfl rfl ?_
  refine g_get X dX8_sharpest_99 ck_X8 0 0 11 rfl rfl (Nat.le_of_ble_eq_true rfl) lkf_X8_32 rfl ?_
  refine g_iconst X (0 : Int32) dX8_sharpest_102 (by decide) ?_
  refine g_iaload X dX8_sharpest_103 3 0 rfl rfl (by decide) ?_
  refine g_aload_n X dX8_sharpest_104 0 rfl rfl ?_
  refine g_get X dX8_sharpest_105 ck_X8 0 0 11 rfl rfl (Nat.le_of_ble_eq_true rfl) lkf_X8_32 rfl ?_
  refine g_iconst X (1 : Int32) dX8_sharpest_108 (by decide) ?_
  refine g_iaload X dX8_sharpest_109 3 0 rfl rfl (by decide) ?_
  refine g_imul X dX8_sharpest_110 ?_
  refine g_aload_n X dX8_sharpest_111 0 rfl rfl ?_
  refine g_get X dX8_sharpest_112 ck_X8 0 0 11 rfl rfl (Nat.le_of_ble_eq_true rfl) lkf_X8_32 rfl ?_
  refine g_iconst X (0 : Int32) dX8_sharpest_115 (by decide) ?_
  refine g_iaload X dX8_sharpest_116 3 0 rfl rfl (by decide) ?_
  refine g_aload_n X dX8_sharpest_117 0 rfl rfl ?_
  refine g_get X dX8_sharpest_118 ck_X8 0 0 11 rfl rfl (Nat.le_of_ble_eq_true rfl) lkf_X8_32 rfl ?_
  refine g_iconst X (2 : Int32) dX8_sharpest_121 (by decide) ?_
  refine g_iaload X dX8_sharpest_122 3 0 rfl rfl (by decide) ?_
  refine g_imul X dX8_sharpest_123 ?_
  refine g_iadd X dX8_sharpest_124 ?_
  refine g_aload_n X dX8_sharpest_125 0 rfl rfl ?_
  refine g_get X dX8_sharpest_126 ck_X8 0 0 11 rfl rfl (Nat.le_of_ble_eq_true rfl) lkf_X8_32 rfl ?_
  refine g_iconst X (1 : Int32) dX8_sharpest_129 (by decide) ?_
  refine g_iaload X dX8_sharpest_130 3 0 rfl rfl (by decide) ?_
  refine g_aload_n X dX8_sharpest_131 0 rfl rfl ?_
  refine g_get X dX8_sharpest_132 ck_X8 0 0 11 rfl rfl (Nat.le_of_ble_eq_true rfl) lkf_X8_32 rfl ?_
  refine g_iconst X (2 : Int32) dX8_sharpest_135 (by decide) ?_
  refine g_iaload X dX8_sharpest_136 3 0 rfl rfl (by decide) ?_
  refine g_imul X dX8_sharpest_137 ?_
  refine g_iadd X dX8_sharpest_138 ?_
  refine g_istore (lv' := [(0, .ref h0), (1, .int x1), (2, .int x2), (3, .int x3), (4, .int x4), (5, .int ((((q850.2 (0 : Int32).toNatClampNeg) * (q850.2 (1 : Int32).toNatClampNeg)) + ((q850.2 (0 : Int32).toNatClampNeg) * (q850.2 (2 : Int32).toNatClampNeg))) + ((q850.2 (1 : Int32).toNatClampNeg) * (q850.2 (2 : Int32).toNatClampNeg))))]) X dX8_sharpest_139 [1, 2, 3, 4, 5, 0] (Nat.le_of_ble_eq_true rfl) rfl ?_
  exact j_X8_sharpest_B32_b141 X hr v0 v2 v7 q850.2 x1 x2 x3 x4 ((((q850.2 (0 : Int32).toNatClampNeg) * (q850.2 (1 : Int32).toNatClampNeg)) + ((q850.2 (0 : Int32).toNatClampNeg) * (q850.2 (2 : Int32).toNatClampNeg))) + ((q850.2 (1 : Int32).toNatClampNeg) * (q850.2 (2 : Int32).toNatClampNeg))) hf K1 K2
def f_X8_sharpest_B32_b63 (v0 : MOv) (v2 : Fn) (v7 : Fn) (v8 : Fn) (x1 : Int32) (x2 : Int32) (x3 : Int32) (x4 : Int32) : Option ((Int32 × Int32 × Int32 × Fn) ⊕ ((Int32 × Int32 × Fn))) :=
  if x4 = (12 : Int32) then f_X8_sharpest_B32_b82 v0 v2 v7 v8 x1 x2 x3 x4 (0 : Int32) ((1 : Int32) <<< (x3 &&& 31)) else f_X8_sharpest_B32_b82 v0 v2 v7 v8 x1 x2 x3 x4 ((1 : Int32) <<< (x4 &&& 31)) ((1 : Int32) <<< (x3 &&& 31))
set_option maxRecDepth 100000 in
set_option maxHeartbeats 4000000 in
theorem j_X8_sharpest_B32_b63 {p : Program} {l : Launch} {e : Env} {s : State} {m : MethodId} {args : Array Value} {below : List Frame} {meth : Method} {c : Code} {A : Nat → Prop} {D : va_G} {cy : Nat → ClassId} {ad : (Nat → Nat) × (Nat → Nat)} {Q : State → Prop} (X : gK p s m args meth c A D cy ad cX8_sharpest 6 RX8) (hr : meth.sig.returnType = (some .int)) {h0 h1 h2 h3 h4 h5 h6 h7 h8 : Nat} (v0 : MOv) (v2 : Fn) (v7 : Fn) (v8 : Fn) (x1 : Int32) (x2 : Int32) (x3 : Int32) (x4 : Int32) {q : (Int32 × Int32 × Int32 × Fn) ⊕ ((Int32 × Int32 × Fn))} (hf : f_X8_sharpest_B32_b63 v0 v2 v7 v8 x1 x2 x3 x4 = some q) (K1 : ∀ s' : Int32 × Int32 × Int32 × Fn, q = .inl s' → GW p l e rmX8_sharpest s m args below meth c A D 6 0 0 Q 32 [(0, .ref h0), (1, .int s'.1), (2, .int s'.2.1), (3, .int x3), (4, .int s'.2.2.1)] [] [MO h0 h1 h2 h3 h4 h5 h6 h7 h8 v0, AI cy 107 h2 v2, AI cy 75 h7 v7, AI cy 3 h8 s'.2.2.2]) (K2 : ∀ e' : Int32 × Int32 × Fn, q = .inr (e') → GW p l e rmX8_sharpest s m args below meth c A D 6 0 0 Q 178 [(0, .ref h0), (1, .int e'.1), (2, .int e'.2.1), (3, .int x3)] [] [MO h0 h1 h2 h3 h4 h5 h6 h7 h8 v0, AI cy 107 h2 v2, AI cy 75 h7 v7, AI cy 3 h8 e'.2.2]) : GW p l e rmX8_sharpest s m args below meth c A D 6 0 0 Q 63 [(0, .ref h0), (1, .int x1), (2, .int x2), (3, .int x3), (4, .int x4)] [] [MO h0 h1 h2 h3 h4 h5 h6 h7 h8 v0, AI cy 107 h2 v2, AI cy 75 h7 v7, AI cy 3 h8 v8] := by
  unfold f_X8_sharpest_B32_b63 at hf
  refine g_aload_n X dX8_sharpest_63 0 rfl rfl ?_
  refine g_iconst X (1 : Int32) dX8_sharpest_64 (by decide) ?_
  refine g_iload_n X dX8_sharpest_65 3 rfl rfl ?_
  refine g_ishl X dX8_sharpest_66 ?_
  refine g_iload X dX8_sharpest_67 4 rfl ?_
  refine g_bipush X (12 : Int32) dX8_sharpest_69 (by decide) ?_
  refine g_icmp_ne X 78 dX8_sharpest_71 (by decide) (fun c853 => ?_) (fun c853 => ?_)
  · have hf := oneg c853 hf
    refine g_iconst X (1 : Int32) dX8_sharpest_78 (by decide) ?_
    refine g_iload X dX8_sharpest_79 4 rfl ?_
    refine g_ishl X dX8_sharpest_81 ?_
    exact j_X8_sharpest_B32_b82 X hr v0 v2 v7 v8 x1 x2 x3 x4 ((1 : Int32) <<< (x4 &&& 31)) ((1 : Int32) <<< (x3 &&& 31)) hf K1 K2
  · have hf := opos c853 hf
    refine g_iconst X (0 : Int32) dX8_sharpest_74 (by decide) ?_
    refine g_goto X 82 dX8_sharpest_75 (by decide) ?_
    exact j_X8_sharpest_B32_b82 X hr v0 v2 v7 v8 x1 x2 x3 x4 (0 : Int32) ((1 : Int32) <<< (x3 &&& 31)) hf K1 K2
def f_X8_sharpest_B32 (v0 : MOv) (v2 : Fn) (v7 : Fn) (x3 : Int32) (z : Int32 × Int32 × Int32 × Fn) : Option ((Int32 × Int32 × Int32 × Fn) ⊕ ((Int32 × Int32 × Fn))) :=
  if (12 : Int32) < z.2.2.1 then some (.inr ((z.1, z.2.1, z.2.2.2))) else if z.2.2.1 = (12 : Int32) then f_X8_sharpest_B32_b63 v0 v2 v7 z.2.2.2 z.1 z.2.1 x3 z.2.2.1 else if (v2 (0 : Int32).toNatClampNeg) ≤ z.2.2.1 then f_X8_sharpest_B32_b172 v0 v2 v7 z.2.2.2 z.1 z.2.1 x3 z.2.2.1 else if z.2.2.1 = x3 then f_X8_sharpest_B32_b172 v0 v2 v7 z.2.2.2 z.1 z.2.1 x3 z.2.2.1 else f_X8_sharpest_B32_b63 v0 v2 v7 z.2.2.2 z.1 z.2.1 x3 z.2.2.1
set_option maxRecDepth 100000 in
set_option maxHeartbeats 4000000 in
theorem b_X8_sharpest_B32 {p : Program} {l : Launch} {e : Env} {s : State} {m : MethodId} {args : Array Value} {below : List Frame} {meth : Method} {c : Code} {A : Nat → Prop} {D : va_G} {cy : Nat → ClassId} {ad : (Nat → Nat) × (Nat → Nat)} {Q : State → Prop} (X : gK p s m args meth c A D cy ad cX8_sharpest 6 RX8) (hr : meth.sig.returnType = (some .int)) {h0 h1 h2 h3 h4 h5 h6 h7 h8 : Nat} (v0 : MOv) (v2 : Fn) (v7 : Fn) (x3 : Int32) (z : Int32 × Int32 × Int32 × Fn) {q : (Int32 × Int32 × Int32 × Fn) ⊕ ((Int32 × Int32 × Fn))} (hf : f_X8_sharpest_B32 v0 v2 v7 x3 z = some q) (K1 : ∀ s' : Int32 × Int32 × Int32 × Fn, q = .inl s' → GW p l e rmX8_sharpest s m args below meth c A D 6 0 0 Q 32 [(0, .ref h0), (1, .int s'.1), (2, .int s'.2.1), (3, .int x3), (4, .int s'.2.2.1)] [] [MO h0 h1 h2 h3 h4 h5 h6 h7 h8 v0, AI cy 107 h2 v2, AI cy 75 h7 v7, AI cy 3 h8 s'.2.2.2]) (K2 : ∀ e' : Int32 × Int32 × Fn, q = .inr (e') → GW p l e rmX8_sharpest s m args below meth c A D 6 0 0 Q 178 [(0, .ref h0), (1, .int e'.1), (2, .int e'.2.1), (3, .int x3)] [] [MO h0 h1 h2 h3 h4 h5 h6 h7 h8 v0, AI cy 107 h2 v2, AI cy 75 h7 v7, AI cy 3 h8 e'.2.2]) : GW p l e rmX8_sharpest s m args below meth c A D 6 0 0 Q 32 [(0, .ref h0), (1, .int z.1), (2, .int z.2.1), (3, .int x3), (4, .int z.2.2.1)] [] [MO h0 h1 h2 h3 h4 h5 h6 h7 h8 v0, AI cy 107 h2 v2, AI cy 75 h7 v7, AI cy 3 h8 z.2.2.2] := by
  unfold f_X8_sharpest_B32 at hf
  refine g_iload X dX8_sharpest_32 4 rfl ?_
  refine g_bipush X (12 : Int32) dX8_sharpest_34 (by decide) ?_
  refine g_icmp_gt X 178 dX8_sharpest_36 (by decide) (fun c857 => ?_) (fun c857 => ?_)
  · have hf := opos c857 hf
    refine g_sub [0, 1, 2, 3] (lv' := [(0, .ref h0), (1, .int z.1), (2, .int z.2.1), (3, .int x3)]) rfl ?_
    exact K2 (z.1, z.2.1, z.2.2.2) (Option.some.inj hf).symm
  · have hf := oneg c857 hf
    refine g_iload X dX8_sharpest_39 4 rfl ?_
    refine g_bipush X (12 : Int32) dX8_sharpest_41 (by decide) ?_
    refine g_icmp_eq X 63 dX8_sharpest_43 (by decide) (fun c856 => ?_) (fun c856 => ?_)
    · have hf := opos c856 hf
      exact j_X8_sharpest_B32_b63 X hr v0 v2 v7 z.2.2.2 z.1 z.2.1 x3 z.2.2.1 hf K1 K2
    · have hf := oneg c856 hf
      refine g_iload X dX8_sharpest_46 4 rfl ?_
      refine g_aload_n X dX8_sharpest_48 0 rfl rfl ?_
      refine g_get X dX8_sharpest_49 ck_X8 0 0 3 rfl rfl (Nat.le_of_ble_eq_true rfl) lkf_X8_13 rfl ?_
      refine g_iconst X (0 : Int32) dX8_sharpest_52 (by decide) ?_
      refine g_iaload X dX8_sharpest_53 1 0 rfl rfl (by decide) ?_
      refine g_icmp_ge X 172 dX8_sharpest_54 (by decide) (fun c855 => ?_) (fun c855 => ?_)
      · have hf := opos c855 hf
        exact j_X8_sharpest_B32_b172 X hr v0 v2 v7 z.2.2.2 z.1 z.2.1 x3 z.2.2.1 hf K1 K2
      · have hf := oneg c855 hf
        refine g_iload X dX8_sharpest_57 4 rfl ?_
        refine g_iload_n X dX8_sharpest_59 3 rfl rfl ?_
        refine g_icmp_eq X 172 dX8_sharpest_60 (by decide) (fun c854 => ?_) (fun c854 => ?_)
        · have hf := opos c854 hf
          exact j_X8_sharpest_B32_b172 X hr v0 v2 v7 z.2.2.2 z.1 z.2.1 x3 z.2.2.1 hf K1 K2
        · have hf := oneg c854 hf
          exact j_X8_sharpest_B32_b63 X hr v0 v2 v7 z.2.2.2 z.1 z.2.1 x3 z.2.2.1 hf K1 K2
set_option maxRecDepth 100000 in
set_option maxHeartbeats 4000000 in
theorem w_X8_sharpest_B32 {p : Program} {l : Launch} {e : Env} {s : State} {m : MethodId} {args : Array Value} {below : List Frame} {meth : Method} {c : Code} {A : Nat → Prop} {D : va_G} {cy : Nat → ClassId} {ad : (Nat → Nat) × (Nat → Nat)} {Q : State → Prop} (X : gK p s m args meth c A D cy ad cX8_sharpest 6 RX8) (hr : meth.sig.returnType = (some .int)) {h0 h1 h2 h3 h4 h5 h6 h7 h8 : Nat} (v0 : MOv) (v2 : Fn) (v7 : Fn) (x3 : Int32) {n : Nat} {z : Int32 × Int32 × Int32 × Fn} {q : (Int32 × Int32 × Fn)} (hf : itl (f_X8_sharpest_B32 v0 v2 v7 x3) n z = some q) (K2 : GW p l e rmX8_sharpest s m args below meth c A D 6 0 0 Q 178 [(0, .ref h0), (1, .int q.1), (2, .int q.2.1), (3, .int x3)] [] [MO h0 h1 h2 h3 h4 h5 h6 h7 h8 v0, AI cy 107 h2 v2, AI cy 75 h7 v7, AI cy 3 h8 q.2.2]) : GW p l e rmX8_sharpest s m args below meth c A D 6 0 0 Q 32 [(0, .ref h0), (1, .int z.1), (2, .int z.2.1), (3, .int x3), (4, .int z.2.2.1)] [] [MO h0 h1 h2 h3 h4 h5 h6 h7 h8 v0, AI cy 107 h2 v2, AI cy 75 h7 v7, AI cy 3 h8 z.2.2.2] :=
  itl_ind (f := f_X8_sharpest_B32 v0 v2 v7 x3) (I := fun z => GW p l e rmX8_sharpest s m args below meth c A D 6 0 0 Q 32 [(0, .ref h0), (1, .int z.1), (2, .int z.2.1), (3, .int x3), (4, .int z.2.2.1)] [] [MO h0 h1 h2 h3 h4 h5 h6 h7 h8 v0, AI cy 107 h2 v2, AI cy 75 h7 v7, AI cy 3 h8 z.2.2.2]) (J := (fun q => GW p l e rmX8_sharpest s m args below meth c A D 6 0 0 Q 178 [(0, .ref h0), (1, .int q.1), (2, .int q.2.1), (3, .int x3)] [] [MO h0 h1 h2 h3 h4 h5 h6 h7 h8 v0, AI cy 107 h2 v2, AI cy 75 h7 v7, AI cy 3 h8 q.2.2])) (fun z x h k1 k2 => b_X8_sharpest_B32 X hr v0 v2 v7 x3 z h (fun s' hs => k1 s' hs) (fun e' he => k2 e' he)) n z q hf K2
def f_X8_sharpest_B19 (v0 : MOv) (v2 : Fn) (v7 : Fn) (z : Int32 × Int32 × Int32 × Fn) : Option ((Int32 × Int32 × Int32 × Fn) ⊕ ((Int32 × Fn))) :=
  if (v2 (0 : Int32).toNatClampNeg) ≤ z.2.2.1 then some (.inr ((z.1, z.2.2.2))) else (itl (f_X8_sharpest_B32 v0 v2 v7 z.2.2.1) FU (z.1, z.2.1, (0 : Int32), z.2.2.2)).bind (fun q858 => some (.inl (q858.1, q858.2.1, (z.2.2.1 + (1 : Int32)), q858.2.2)))
set_option maxRecDepth 100000 in
set_option maxHeartbeats 4000000 in
theorem b_X8_sharpest_B19 {p : Program} {l : Launch} {e : Env} {s : State} {m : MethodId} {args : Array Value} {below : List Frame} {meth : Method} {c : Code} {A : Nat → Prop} {D : va_G} {cy : Nat → ClassId} {ad : (Nat → Nat) × (Nat → Nat)} {Q : State → Prop} (X : gK p s m args meth c A D cy ad cX8_sharpest 6 RX8) (hr : meth.sig.returnType = (some .int)) {h0 h1 h2 h3 h4 h5 h6 h7 h8 : Nat} (v0 : MOv) (v2 : Fn) (v7 : Fn) (z : Int32 × Int32 × Int32 × Fn) {q : (Int32 × Int32 × Int32 × Fn) ⊕ ((Int32 × Fn))} (hf : f_X8_sharpest_B19 v0 v2 v7 z = some q) (K1 : ∀ s' : Int32 × Int32 × Int32 × Fn, q = .inl s' → GW p l e rmX8_sharpest s m args below meth c A D 6 0 0 Q 19 [(0, .ref h0), (1, .int s'.1), (2, .int s'.2.1), (3, .int s'.2.2.1)] [] [MO h0 h1 h2 h3 h4 h5 h6 h7 h8 v0, AI cy 107 h2 v2, AI cy 75 h7 v7, AI cy 3 h8 s'.2.2.2]) (K2 : ∀ e' : Int32 × Fn, q = .inr (e') → GW p l e rmX8_sharpest s m args below meth c A D 6 0 0 Q 184 [(1, .int e'.1)] [] [MO h0 h1 h2 h3 h4 h5 h6 h7 h8 v0, AI cy 107 h2 v2, AI cy 75 h7 v7, AI cy 3 h8 e'.2]) : GW p l e rmX8_sharpest s m args below meth c A D 6 0 0 Q 19 [(0, .ref h0), (1, .int z.1), (2, .int z.2.1), (3, .int z.2.2.1)] [] [MO h0 h1 h2 h3 h4 h5 h6 h7 h8 v0, AI cy 107 h2 v2, AI cy 75 h7 v7, AI cy 3 h8 z.2.2.2] := by
  unfold f_X8_sharpest_B19 at hf
  refine g_iload_n X dX8_sharpest_19 3 rfl rfl ?_
  refine g_aload_n X dX8_sharpest_20 0 rfl rfl ?_
  refine g_get X dX8_sharpest_21 ck_X8 0 0 3 rfl rfl (Nat.le_of_ble_eq_true rfl) lkf_X8_13 rfl ?_
  refine g_iconst X (0 : Int32) dX8_sharpest_24 (by decide) ?_
  refine g_iaload X dX8_sharpest_25 1 0 rfl rfl (by decide) ?_
  refine g_icmp_ge X 184 dX8_sharpest_26 (by decide) (fun c859 => ?_) (fun c859 => ?_)
  · have hf := opos c859 hf
    refine g_sub [1] (lv' := [(1, .int z.1)]) rfl ?_
    exact K2 (z.1, z.2.2.2) (Option.some.inj hf).symm
  · have hf := oneg c859 hf
    refine g_iconst X (0 : Int32) dX8_sharpest_29 (by decide) ?_
    refine g_istore (lv' := [(0, .ref h0), (1, .int z.1), (2, .int z.2.1), (3, .int z.2.2.1), (4, .int (0 : Int32))]) X dX8_sharpest_30 [1, 2, 3, 4, 0] (Nat.le_of_ble_eq_true rfl) rfl ?_
    obtain ⟨q858, hq858, hf⟩ := obind hf
    refine w_X8_sharpest_B32 X hr v0 v2 v7 z.2.2.1 hq858 ?_
    refine g_iinc (lv' := [(0, .ref h0), (1, .int q858.1), (2, .int q858.2.1), (3, .int (z.2.2.1 + (1 : Int32)))]) (v := (1 : Int32)) X dX8_sharpest_178 3 rfl (by decide) [1, 2, 3, 0] (Nat.le_of_ble_eq_true rfl) rfl ?_
    refine g_goto X 19 dX8_sharpest_181 (by decide) ?_
    exact K1 (q858.1, q858.2.1, (z.2.2.1 + (1 : Int32)), q858.2.2) (Option.some.inj hf).symm
set_option maxRecDepth 100000 in
set_option maxHeartbeats 4000000 in
theorem w_X8_sharpest_B19 {p : Program} {l : Launch} {e : Env} {s : State} {m : MethodId} {args : Array Value} {below : List Frame} {meth : Method} {c : Code} {A : Nat → Prop} {D : va_G} {cy : Nat → ClassId} {ad : (Nat → Nat) × (Nat → Nat)} {Q : State → Prop} (X : gK p s m args meth c A D cy ad cX8_sharpest 6 RX8) (hr : meth.sig.returnType = (some .int)) {h0 h1 h2 h3 h4 h5 h6 h7 h8 : Nat} (v0 : MOv) (v2 : Fn) (v7 : Fn) {n : Nat} {z : Int32 × Int32 × Int32 × Fn} {q : (Int32 × Fn)} (hf : itl (f_X8_sharpest_B19 v0 v2 v7) n z = some q) (K2 : GW p l e rmX8_sharpest s m args below meth c A D 6 0 0 Q 184 [(1, .int q.1)] [] [MO h0 h1 h2 h3 h4 h5 h6 h7 h8 v0, AI cy 107 h2 v2, AI cy 75 h7 v7, AI cy 3 h8 q.2]) : GW p l e rmX8_sharpest s m args below meth c A D 6 0 0 Q 19 [(0, .ref h0), (1, .int z.1), (2, .int z.2.1), (3, .int z.2.2.1)] [] [MO h0 h1 h2 h3 h4 h5 h6 h7 h8 v0, AI cy 107 h2 v2, AI cy 75 h7 v7, AI cy 3 h8 z.2.2.2] :=
  itl_ind (f := f_X8_sharpest_B19 v0 v2 v7) (I := fun z => GW p l e rmX8_sharpest s m args below meth c A D 6 0 0 Q 19 [(0, .ref h0), (1, .int z.1), (2, .int z.2.1), (3, .int z.2.2.1)] [] [MO h0 h1 h2 h3 h4 h5 h6 h7 h8 v0, AI cy 107 h2 v2, AI cy 75 h7 v7, AI cy 3 h8 z.2.2.2]) (J := (fun q => GW p l e rmX8_sharpest s m args below meth c A D 6 0 0 Q 184 [(1, .int q.1)] [] [MO h0 h1 h2 h3 h4 h5 h6 h7 h8 v0, AI cy 107 h2 v2, AI cy 75 h7 v7, AI cy 3 h8 q.2])) (fun z x h k1 k2 => b_X8_sharpest_B19 X hr v0 v2 v7 z h (fun s' hs => k1 s' hs) (fun e' he => k2 e' he)) n z q hf K2
def f_X8_sharpest (v0 : MOv) (v2 : Fn) (v7 : Fn) (v8 : Fn) : Option (Int32 × MOv × Fn × Fn) :=
  (f_X8_gather ((0 : Int32), v0.2.1, v0.2.2.1, v0.2.2.2.1, v0.2.2.2.2.1, v0.2.2.2.2.2) v7 v2).bind (fun q849 => (itl (f_X8_sharpest_B19 q849.1 v2 q849.2) FU ((-1 : Int32), (0 : Int32), (0 : Int32), v8)).bind (fun q860 => some (q860.1, q849.1, q849.2, q860.2)))
set_option maxRecDepth 100000 in
set_option maxHeartbeats 4000000 in
theorem c_X8_sharpest (l : Launch) (D : va_G) (cy : Nat → ClassId) (ad : (Nat → Nat) × (Nat → Nat)) (h0 h1 h2 h3 h4 h5 h6 h7 h8 : Nat) (v0 : MOv) (v2 : Fn) (v7 : Fn) (v8 : Fn) {q : Int32 × MOv × Fn × Fn} (hf : f_X8_sharpest v0 v2 v7 v8 = some q) : CM l yX8_sharpest cX8_sharpest 6 (some .int) rmX8_sharpest D cy ad [.ref h0] [MO h0 h1 h2 h3 h4 h5 h6 h7 h8 v0, AI cy 107 h2 v2, AI cy 75 h7 v7, AI cy 3 h8 v8] (some (.int q.1)) [MO h0 h1 h2 h3 h4 h5 h6 h7 h8 q.2.1, AI cy 107 h2 v2, AI cy 75 h7 q.2.2.1, AI cy 3 h8 q.2.2.2] := by
  refine cm_of (lv0 := [(0, .ref h0)]) (by decide) (Nat.le_of_ble_eq_true rfl) rfl ?_
  intro p e s m args below meth c A X hr hn
  have X : gK p s m args meth c A D cy ad cX8_sharpest 6 RX8 := X
  unfold f_X8_sharpest at hf
  refine g_aload_n X dX8_sharpest_0 0 rfl rfl ?_
  refine g_iconst X (0 : Int32) dX8_sharpest_1 (by decide) ?_
  refine g_put (gs' := [MO h0 h1 h2 h3 h4 h5 h6 h7 h8 ((0 : Int32), v0.2.1, v0.2.2.1, v0.2.2.2.1, v0.2.2.2.2.1, v0.2.2.2.2.2), AI cy 107 h2 v2, AI cy 75 h7 v7, AI cy 3 h8 v8]) X dX8_sharpest_2 ck_X8 ct_X8 0 0 0 rfl rfl (Nat.le_of_ble_eq_true rfl) lkf_X8_39 rfl rfl rfl (Nat.le_of_ble_eq_true rfl) rfl ?_
  refine g_aload_n X dX8_sharpest_5 0 rfl rfl ?_
  refine g_aload_n X dX8_sharpest_6 0 rfl rfl ?_
  refine g_get X dX8_sharpest_7 ck_X8 0 0 3 rfl rfl (Nat.le_of_ble_eq_true rfl) lkf_X8_13 rfl ?_
  obtain ⟨q849, hq849, hf⟩ := obind hf
  refine g_callV (gs' := [MO h0 h1 h2 h3 h4 h5 h6 h7 h8 q849.1, AI cy 107 h2 v2, AI cy 75 h7 q849.2, AI cy 3 h8 v8]) (rest := []) X dX8_sharpest_10 (c_X8_gather l D cy ad h0 h1 h2 h3 h4 h5 h6 h7 h8 h2 ((0 : Int32), v0.2.1, v0.2.2.1, v0.2.2.2.1, v0.2.2.2.2.1, v0.2.2.2.2.2) v7 v2 hq849) mf_X8_gather mv_X8_gather lkm_X8_193 ⟨(Nat.le_of_ble_eq_true rfl), (Nat.le_of_ble_eq_true rfl), (Nat.le_of_ble_eq_true rfl), (Nat.le_of_ble_eq_true rfl)⟩ 0 0 rfl rfl rfl rfl [0, 2, 1, 3] _ (by decide : [0, 2, 1, 3].Perm (List.range 4)) rfl (by decide : [0, 2, 1, 3].Perm (List.range 4)) rfl (Nat.le_of_ble_eq_true rfl) rfl ?_
  refine g_iconst X (-1 : Int32) dX8_sharpest_13 (by decide) ?_
  refine g_istore_n (lv' := [(0, .ref h0), (1, .int (-1 : Int32))]) X dX8_sharpest_14 [1, 0] rfl (Nat.le_of_ble_eq_true rfl) rfl ?_
  refine g_iconst X (0 : Int32) dX8_sharpest_15 (by decide) ?_
  refine g_istore_n (lv' := [(0, .ref h0), (1, .int (-1 : Int32)), (2, .int (0 : Int32))]) X dX8_sharpest_16 [1, 2, 0] rfl (Nat.le_of_ble_eq_true rfl) rfl ?_
  refine g_iconst X (0 : Int32) dX8_sharpest_17 (by decide) ?_
  refine g_istore_n (lv' := [(0, .ref h0), (1, .int (-1 : Int32)), (2, .int (0 : Int32)), (3, .int (0 : Int32))]) X dX8_sharpest_18 [1, 2, 3, 0] rfl (Nat.le_of_ble_eq_true rfl) rfl ?_
  obtain ⟨q860, hq860, hf⟩ := obind hf
  refine w_X8_sharpest_B19 X hr q849.1 v2 q849.2 hq860 ?_
  refine g_iload_n X dX8_sharpest_184 0 rfl rfl ?_
  have hf := Option.some.inj hf
  subst hf
  exact g_iret X hr dX8_sharpest_185
abbrev rmX8_needs : Room := ({ frames := 7, cells := 0, slots := 0, locals := 160 } : Room)
def f_X8_needs (v0 : MOv) (v2 : Fn) : Option (Int32 × MOv) :=
  (f_X8_needsOf v2).bind (fun q863 => some (q863, ((0 : Int32), v0.2.1, v0.2.2.1, v0.2.2.2.1, v0.2.2.2.2.1, v0.2.2.2.2.2)))
set_option maxRecDepth 100000 in
set_option maxHeartbeats 4000000 in
theorem c_X8_needs (l : Launch) (D : va_G) (cy : Nat → ClassId) (ad : (Nat → Nat) × (Nat → Nat)) (h0 h1 h2 h3 h4 h5 h6 h7 h8 : Nat) (v0 : MOv) (v2 : Fn) {q : Int32 × MOv} (hf : f_X8_needs v0 v2 = some q) : CM l yX8_needs cX8_needs 1 (some .int) rmX8_needs D cy ad [.ref h0] [MO h0 h1 h2 h3 h4 h5 h6 h7 h8 v0, AI cy 107 h2 v2] (some (.int q.1)) [MO h0 h1 h2 h3 h4 h5 h6 h7 h8 q.2, AI cy 107 h2 v2] := by
  refine cm_of (lv0 := [(0, .ref h0)]) (by decide) (Nat.le_of_ble_eq_true rfl) rfl ?_
  intro p e s m args below meth c A X hr hn
  have X : gK p s m args meth c A D cy ad cX8_needs 1 RX8 := X
  unfold f_X8_needs at hf
  refine g_aload_n X dX8_needs_0 0 rfl rfl ?_
  refine g_iconst X (0 : Int32) dX8_needs_1 (by decide) ?_
  refine g_put (gs' := [MO h0 h1 h2 h3 h4 h5 h6 h7 h8 ((0 : Int32), v0.2.1, v0.2.2.1, v0.2.2.2.1, v0.2.2.2.2.1, v0.2.2.2.2.2), AI cy 107 h2 v2]) X dX8_needs_2 ck_X8 ct_X8 0 0 0 rfl rfl (Nat.le_of_ble_eq_true rfl) lkf_X8_39 rfl rfl rfl (Nat.le_of_ble_eq_true rfl) rfl ?_
  refine g_aload_n X dX8_needs_5 0 rfl rfl ?_
  refine g_get X dX8_needs_6 ck_X8 0 0 3 rfl rfl (Nat.le_of_ble_eq_true rfl) lkf_X8_13 rfl ?_
  obtain ⟨q863, hq863, hf⟩ := obind hf
  refine g_callS (gs' := [MO h0 h1 h2 h3 h4 h5 h6 h7 h8 ((0 : Int32), v0.2.1, v0.2.2.1, v0.2.2.2.1, v0.2.2.2.2.1, v0.2.2.2.2.2), AI cy 107 h2 v2]) (rest := []) X dX8_needs_9 (c_X8_needsOf l D cy ad h2 v2 hq863) mf_X8_needsOf ms_X8_needsOf lkm_X8_199 ⟨(Nat.le_of_ble_eq_true rfl), (Nat.le_of_ble_eq_true rfl), (Nat.le_of_ble_eq_true rfl), (Nat.le_of_ble_eq_true rfl)⟩ [1, 0] _ (by decide : [1, 0].Perm (List.range 2)) rfl (by decide : [1, 0].Perm (List.range 2)) rfl (Nat.le_of_ble_eq_true rfl) rfl ?_
  have hf := Option.some.inj hf
  subst hf
  exact g_iret X hr dX8_needs_12
abbrev rmX8_bestArms : Room := ({ frames := 5, cells := 0, slots := 0, locals := 116 } : Room)
def f_X8_bestArms_B52_b120 (v0 : MOv) (v2 : Fn) (v7 : Fn) (v8 : Fn) (x1 : Int32) (x2 : Int32) (x3 : Int32) (x5 : Int32) (x6 : Int32) (y0 : Int32) : Option ((Int32 × Int32 × Int32 × Fn) ⊕ ((Int32 × Int32 × Fn))) :=
  some (.inl (x3, y0, (x6 + (1 : Int32)), v8))
set_option maxRecDepth 100000 in
set_option maxHeartbeats 4000000 in
theorem j_X8_bestArms_B52_b120 {p : Program} {l : Launch} {e : Env} {s : State} {m : MethodId} {args : Array Value} {below : List Frame} {meth : Method} {c : Code} {A : Nat → Prop} {D : va_G} {cy : Nat → ClassId} {ad : (Nat → Nat) × (Nat → Nat)} {Q : State → Prop} (X : gK p s m args meth c A D cy ad cX8_bestArms 9 RX8) (hr : meth.sig.returnType = (some .int)) {h0 h1 h2 h3 h4 h5 h6 h7 h8 : Nat} (v0 : MOv) (v2 : Fn) (v7 : Fn) (v8 : Fn) (x1 : Int32) (x2 : Int32) (x3 : Int32) (x5 : Int32) (x6 : Int32) (y0 : Int32) {q : (Int32 × Int32 × Int32 × Fn) ⊕ ((Int32 × Int32 × Fn))} (hf : f_X8_bestArms_B52_b120 v0 v2 v7 v8 x1 x2 x3 x5 x6 y0 = some q) (K1 : ∀ s' : Int32 × Int32 × Int32 × Fn, q = .inl s' → GW p l e rmX8_bestArms s m args below meth c A D 9 0 0 Q 52 [(0, .ref h0), (1, .int x1), (2, .int x2), (3, .int s'.1), (4, .int s'.2.1), (5, .int x5), (6, .int s'.2.2.1)] [] [MO h0 h1 h2 h3 h4 h5 h6 h7 h8 v0, AI cy 107 h2 v2, AI cy 75 h7 v7, AI cy 3 h8 s'.2.2.2]) (K2 : ∀ e' : Int32 × Int32 × Fn, q = .inr (e') → GW p l e rmX8_bestArms s m args below meth c A D 9 0 0 Q 128 [(0, .ref h0), (1, .int x1), (2, .int x2), (3, .int e'.1), (4, .int e'.2.1), (5, .int x5)] [] [MO h0 h1 h2 h3 h4 h5 h6 h7 h8 v0, AI cy 107 h2 v2, AI cy 75 h7 v7, AI cy 3 h8 e'.2.2]) : GW p l e rmX8_bestArms s m args below meth c A D 9 0 0 Q 120 [(0, .ref h0), (1, .int x1), (2, .int x2), (3, .int x3), (5, .int x5), (6, .int x6)] [.int y0] [MO h0 h1 h2 h3 h4 h5 h6 h7 h8 v0, AI cy 107 h2 v2, AI cy 75 h7 v7, AI cy 3 h8 v8] := by
  unfold f_X8_bestArms_B52_b120 at hf
  refine g_istore (lv' := [(0, .ref h0), (1, .int x1), (2, .int x2), (3, .int x3), (4, .int y0), (5, .int x5), (6, .int x6)]) X dX8_bestArms_120 [1, 2, 3, 4, 0, 5, 6] (Nat.le_of_ble_eq_true rfl) rfl ?_
  refine g_iinc (lv' := [(0, .ref h0), (1, .int x1), (2, .int x2), (3, .int x3), (4, .int y0), (5, .int x5), (6, .int (x6 + (1 : Int32)))]) (v := (1 : Int32)) X dX8_bestArms_122 6 rfl (by decide) [1, 2, 3, 4, 5, 6, 0] (Nat.le_of_ble_eq_true rfl) rfl ?_
  refine g_goto X 52 dX8_bestArms_125 (by decide) ?_
  exact K1 (x3, y0, (x6 + (1 : Int32)), v8) (Option.some.inj hf).symm
def f_X8_bestArms_B52_b107 (v0 : MOv) (v2 : Fn) (v7 : Fn) (v8 : Fn) (x1 : Int32) (x2 : Int32) (x4 : Int32) (x5 : Int32) (x6 : Int32) (x7 : Int32) (x8 : Int32) (y0 : Int32) : Option ((Int32 × Int32 × Int32 × Fn) ⊕ ((Int32 × Int32 × Fn))) :=
  if x8 = 0 then f_X8_bestArms_B52_b120 v0 v2 v7 v8 x1 x2 y0 x5 x6 x4 else f_X8_bestArms_B52_b120 v0 v2 v7 v8 x1 x2 y0 x5 x6 x7
set_option maxRecDepth 100000 in
set_option maxHeartbeats 4000000 in
theorem j_X8_bestArms_B52_b107 {p : Program} {l : Launch} {e : Env} {s : State} {m : MethodId} {args : Array Value} {below : List Frame} {meth : Method} {c : Code} {A : Nat → Prop} {D : va_G} {cy : Nat → ClassId} {ad : (Nat → Nat) × (Nat → Nat)} {Q : State → Prop} (X : gK p s m args meth c A D cy ad cX8_bestArms 9 RX8) (hr : meth.sig.returnType = (some .int)) {h0 h1 h2 h3 h4 h5 h6 h7 h8 : Nat} (v0 : MOv) (v2 : Fn) (v7 : Fn) (v8 : Fn) (x1 : Int32) (x2 : Int32) (x4 : Int32) (x5 : Int32) (x6 : Int32) (x7 : Int32) (x8 : Int32) (y0 : Int32) {q : (Int32 × Int32 × Int32 × Fn) ⊕ ((Int32 × Int32 × Fn))} (hf : f_X8_bestArms_B52_b107 v0 v2 v7 v8 x1 x2 x4 x5 x6 x7 x8 y0 = some q) (K1 : ∀ s' : Int32 × Int32 × Int32 × Fn, q = .inl s' → GW p l e rmX8_bestArms s m args below meth c A D 9 0 0 Q 52 [(0, .ref h0), (1, .int x1), (2, .int x2), (3, .int s'.1), (4, .int s'.2.1), (5, .int x5), (6, .int s'.2.2.1)] [] [MO h0 h1 h2 h3 h4 h5 h6 h7 h8 v0, AI cy 107 h2 v2, AI cy 75 h7 v7, AI cy 3 h8 s'.2.2.2]) (K2 : ∀ e' : Int32 × Int32 × Fn, q = .inr (e') → GW p l e rmX8_bestArms s m args below meth c A D 9 0 0 Q 128 [(0, .ref h0), (1, .int x1), (2, .int x2), (3, .int e'.1), (4, .int e'.2.1), (5, .int x5)] [] [MO h0 h1 h2 h3 h4 h5 h6 h7 h8 v0, AI cy 107 h2 v2, AI cy 75 h7 v7, AI cy 3 h8 e'.2.2]) : GW p l e rmX8_bestArms s m args below meth c A D 9 0 0 Q 107 [(0, .ref h0), (1, .int x1), (2, .int x2), (4, .int x4), (5, .int x5), (6, .int x6), (7, .int x7), (8, .int x8)] [.int y0] [MO h0 h1 h2 h3 h4 h5 h6 h7 h8 v0, AI cy 107 h2 v2, AI cy 75 h7 v7, AI cy 3 h8 v8] := by
  unfold f_X8_bestArms_B52_b107 at hf
  refine g_istore_n (lv' := [(0, .ref h0), (1, .int x1), (2, .int x2), (3, .int y0), (4, .int x4), (5, .int x5), (6, .int x6), (7, .int x7), (8, .int x8)]) X dX8_bestArms_107 [1, 2, 3, 0, 4, 5, 6, 7, 8] rfl (Nat.le_of_ble_eq_true rfl) rfl ?_
  refine g_iload X dX8_bestArms_108 8 rfl ?_
  refine g_if_eq X 118 dX8_bestArms_110 (by decide) (fun c876 => ?_) (fun c876 => ?_)
  · have hf := opos c876 hf
    refine g_iload X dX8_bestArms_118 4 rfl ?_
    refine g_sub [0, 1, 2, 3, 5, 6] (lv' := [(0, .ref h0), (1, .int x1), (2, .int x2), (3, .int y0), (5, .int x5), (6, .int x6)]) rfl ?_
    exact j_X8_bestArms_B52_b120 X hr v0 v2 v7 v8 x1 x2 y0 x5 x6 x4 hf K1 K2
  · have hf := oneg c876 hf
    refine g_iload X dX8_bestArms_113 7 rfl ?_
    refine g_goto X 120 dX8_bestArms_115 (by decide) ?_
    refine g_sub [0, 1, 2, 3, 5, 6] (lv' := [(0, .ref h0), (1, .int x1), (2, .int x2), (3, .int y0), (5, .int x5), (6, .int x6)]) rfl ?_
    exact j_X8_bestArms_B52_b120 X hr v0 v2 v7 v8 x1 x2 y0 x5 x6 x7 hf K1 K2
def f_X8_bestArms_B52_b88 (v0 : MOv) (v2 : Fn) (v7 : Fn) (v8 : Fn) (x1 : Int32) (x2 : Int32) (x3 : Int32) (x4 : Int32) (x5 : Int32) (x6 : Int32) (x7 : Int32) (y0 : Bool) : Option ((Int32 × Int32 × Int32 × Fn) ⊕ ((Int32 × Int32 × Fn))) :=
  if (b2i y0) = 0 then f_X8_bestArms_B52_b107 v0 v2 v7 v8 x1 x2 x4 x5 x6 x7 (b2i y0) x3 else f_X8_bestArms_B52_b107 v0 v2 v7 v8 x1 x2 x4 x5 x6 x7 (b2i y0) (((100 : Int32) * x5) + x6)
set_option maxRecDepth 100000 in
set_option maxHeartbeats 4000000 in
theorem j_X8_bestArms_B52_b88 {p : Program} {l : Launch} {e : Env} {s : State} {m : MethodId} {args : Array Value} {below : List Frame} {meth : Method} {c : Code} {A : Nat → Prop} {D : va_G} {cy : Nat → ClassId} {ad : (Nat → Nat) × (Nat → Nat)} {Q : State → Prop} (X : gK p s m args meth c A D cy ad cX8_bestArms 9 RX8) (hr : meth.sig.returnType = (some .int)) {h0 h1 h2 h3 h4 h5 h6 h7 h8 : Nat} (v0 : MOv) (v2 : Fn) (v7 : Fn) (v8 : Fn) (x1 : Int32) (x2 : Int32) (x3 : Int32) (x4 : Int32) (x5 : Int32) (x6 : Int32) (x7 : Int32) (y0 : Bool) {q : (Int32 × Int32 × Int32 × Fn) ⊕ ((Int32 × Int32 × Fn))} (hf : f_X8_bestArms_B52_b88 v0 v2 v7 v8 x1 x2 x3 x4 x5 x6 x7 y0 = some q) (K1 : ∀ s' : Int32 × Int32 × Int32 × Fn, q = .inl s' → GW p l e rmX8_bestArms s m args below meth c A D 9 0 0 Q 52 [(0, .ref h0), (1, .int x1), (2, .int x2), (3, .int s'.1), (4, .int s'.2.1), (5, .int x5), (6, .int s'.2.2.1)] [] [MO h0 h1 h2 h3 h4 h5 h6 h7 h8 v0, AI cy 107 h2 v2, AI cy 75 h7 v7, AI cy 3 h8 s'.2.2.2]) (K2 : ∀ e' : Int32 × Int32 × Fn, q = .inr (e') → GW p l e rmX8_bestArms s m args below meth c A D 9 0 0 Q 128 [(0, .ref h0), (1, .int x1), (2, .int x2), (3, .int e'.1), (4, .int e'.2.1), (5, .int x5)] [] [MO h0 h1 h2 h3 h4 h5 h6 h7 h8 v0, AI cy 107 h2 v2, AI cy 75 h7 v7, AI cy 3 h8 e'.2.2]) : GW p l e rmX8_bestArms s m args below meth c A D 9 0 0 Q 88 [(0, .ref h0), (1, .int x1), (2, .int x2), (3, .int x3), (4, .int x4), (5, .int x5), (6, .int x6), (7, .int x7)] [.int (b2i y0)] [MO h0 h1 h2 h3 h4 h5 h6 h7 h8 v0, AI cy 107 h2 v2, AI cy 75 h7 v7, AI cy 3 h8 v8] := by
  unfold f_X8_bestArms_B52_b88 at hf
  refine g_istore (lv' := [(0, .ref h0), (1, .int x1), (2, .int x2), (3, .int x3), (4, .int x4), (5, .int x5), (6, .int x6), (7, .int x7), (8, .int (b2i y0))]) X dX8_bestArms_88 [1, 2, 3, 4, 5, 6, 7, 8, 0] (Nat.le_of_ble_eq_true rfl) rfl ?_
  refine g_iload X dX8_bestArms_90 8 rfl ?_
  refine g_if_eq X 106 dX8_bestArms_92 (by decide) (fun c877 => ?_) (fun c877 => ?_)
  · have hf := opos c877 hf
    refine g_iload_n X dX8_bestArms_106 3 rfl rfl ?_
    refine g_sub [0, 1, 2, 4, 5, 6, 7, 8] (lv' := [(0, .ref h0), (1, .int x1), (2, .int x2), (4, .int x4), (5, .int x5), (6, .int x6), (7, .int x7), (8, .int (b2i y0))]) rfl ?_
    exact j_X8_bestArms_B52_b107 X hr v0 v2 v7 v8 x1 x2 x4 x5 x6 x7 (b2i y0) x3 hf K1 K2
  · have hf := oneg c877 hf
    refine g_bipush X (100 : Int32) dX8_bestArms_95 (by decide) ?_
    refine g_iload X dX8_bestArms_97 5 rfl ?_
    refine g_imul X dX8_bestArms_99 ?_
    refine g_iload X dX8_bestArms_100 6 rfl ?_
    refine g_iadd X dX8_bestArms_102 ?_
    refine g_goto X 107 dX8_bestArms_103 (by decide) ?_
    refine g_sub [0, 1, 2, 4, 5, 6, 7, 8] (lv' := [(0, .ref h0), (1, .int x1), (2, .int x2), (4, .int x4), (5, .int x5), (6, .int x6), (7, .int x7), (8, .int (b2i y0))]) rfl ?_
    exact j_X8_bestArms_B52_b107 X hr v0 v2 v7 v8 x1 x2 x4 x5 x6 x7 (b2i y0) (((100 : Int32) * x5) + x6) hf K1 K2
def f_X8_bestArms_B52_b83 (v0 : MOv) (v2 : Fn) (v7 : Fn) (v8 : Fn) (x1 : Int32) (x2 : Int32) (x3 : Int32) (x4 : Int32) (x5 : Int32) (x6 : Int32) (x7 : Int32) : Option ((Int32 × Int32 × Int32 × Fn) ⊕ ((Int32 × Int32 × Fn))) :=
  f_X8_bestArms_B52_b88 v0 v2 v7 v8 x1 x2 x3 x4 x5 x6 x7 true
set_option maxRecDepth 100000 in
set_option maxHeartbeats 4000000 in
theorem j_X8_bestArms_B52_b83 {p : Program} {l : Launch} {e : Env} {s : State} {m : MethodId} {args : Array Value} {below : List Frame} {meth : Method} {c : Code} {A : Nat → Prop} {D : va_G} {cy : Nat → ClassId} {ad : (Nat → Nat) × (Nat → Nat)} {Q : State → Prop} (X : gK p s m args meth c A D cy ad cX8_bestArms 9 RX8) (hr : meth.sig.returnType = (some .int)) {h0 h1 h2 h3 h4 h5 h6 h7 h8 : Nat} (v0 : MOv) (v2 : Fn) (v7 : Fn) (v8 : Fn) (x1 : Int32) (x2 : Int32) (x3 : Int32) (x4 : Int32) (x5 : Int32) (x6 : Int32) (x7 : Int32) {q : (Int32 × Int32 × Int32 × Fn) ⊕ ((Int32 × Int32 × Fn))} (hf : f_X8_bestArms_B52_b83 v0 v2 v7 v8 x1 x2 x3 x4 x5 x6 x7 = some q) (K1 : ∀ s' : Int32 × Int32 × Int32 × Fn, q = .inl s' → GW p l e rmX8_bestArms s m args below meth c A D 9 0 0 Q 52 [(0, .ref h0), (1, .int x1), (2, .int x2), (3, .int s'.1), (4, .int s'.2.1), (5, .int x5), (6, .int s'.2.2.1)] [] [MO h0 h1 h2 h3 h4 h5 h6 h7 h8 v0, AI cy 107 h2 v2, AI cy 75 h7 v7, AI cy 3 h8 s'.2.2.2]) (K2 : ∀ e' : Int32 × Int32 × Fn, q = .inr (e') → GW p l e rmX8_bestArms s m args below meth c A D 9 0 0 Q 128 [(0, .ref h0), (1, .int x1), (2, .int x2), (3, .int e'.1), (4, .int e'.2.1), (5, .int x5)] [] [MO h0 h1 h2 h3 h4 h5 h6 h7 h8 v0, AI cy 107 h2 v2, AI cy 75 h7 v7, AI cy 3 h8 e'.2.2]) : GW p l e rmX8_bestArms s m args below meth c A D 9 0 0 Q 83 [(0, .ref h0), (1, .int x1), (2, .int x2), (3, .int x3), (4, .int x4), (5, .int x5), (6, .int x6), (7, .int x7)] [] [MO h0 h1 h2 h3 h4 h5 h6 h7 h8 v0, AI cy 107 h2 v2, AI cy 75 h7 v7, AI cy 3 h8 v8] := by
  unfold f_X8_bestArms_B52_b83 at hf
  refine g_iconst X (1 : Int32) dX8_bestArms_83 (by decide) ?_
  refine g_goto X 88 dX8_bestArms_84 (by decide) ?_
  exact j_X8_bestArms_B52_b88 X hr v0 v2 v7 v8 x1 x2 x3 x4 x5 x6 x7 true hf K1 K2
def f_X8_bestArms_B52 (v0 : MOv) (v2 : Fn) (v7 : Fn) (x1 : Int32) (x2 : Int32) (x5 : Int32) (z : Int32 × Int32 × Int32 × Fn) : Option ((Int32 × Int32 × Int32 × Fn) ⊕ ((Int32 × Int32 × Fn))) :=
  if (20 : Int32) < z.2.2.1 then some (.inr ((z.1, z.2.1, z.2.2.2))) else (f_X8_worst v0 v7 z.2.2.2 x1 x2 x5 z.2.2.1).bind (fun q875 => if z.1 = (-1 : Int32) then f_X8_bestArms_B52_b83 v0 v2 v7 q875.2 x1 x2 z.1 z.2.1 x5 z.2.2.1 q875.1 else if z.2.1 ≤ q875.1 then f_X8_bestArms_B52_b88 v0 v2 v7 q875.2 x1 x2 z.1 z.2.1 x5 z.2.2.1 q875.1 false else f_X8_bestArms_B52_b83 v0 v2 v7 q875.2 x1 x2 z.1 z.2.1 x5 z.2.2.1 q875.1)
set_option maxRecDepth 100000 in
set_option maxHeartbeats 4000000 in
theorem b_X8_bestArms_B52 {p : Program} {l : Launch} {e : Env} {s : State} {m : MethodId} {args : Array Value} {below : List Frame} {meth : Method} {c : Code} {A : Nat → Prop} {D : va_G} {cy : Nat → ClassId} {ad : (Nat → Nat) × (Nat → Nat)} {Q : State → Prop} (X : gK p s m args meth c A D cy ad cX8_bestArms 9 RX8) (hr : meth.sig.returnType = (some .int)) {h0 h1 h2 h3 h4 h5 h6 h7 h8 : Nat} (v0 : MOv) (v2 : Fn) (v7 : Fn) (x1 : Int32) (x2 : Int32) (x5 : Int32) (z : Int32 × Int32 × Int32 × Fn) {q : (Int32 × Int32 × Int32 × Fn) ⊕ ((Int32 × Int32 × Fn))} (hf : f_X8_bestArms_B52 v0 v2 v7 x1 x2 x5 z = some q) (K1 : ∀ s' : Int32 × Int32 × Int32 × Fn, q = .inl s' → GW p l e rmX8_bestArms s m args below meth c A D 9 0 0 Q 52 [(0, .ref h0), (1, .int x1), (2, .int x2), (3, .int s'.1), (4, .int s'.2.1), (5, .int x5), (6, .int s'.2.2.1)] [] [MO h0 h1 h2 h3 h4 h5 h6 h7 h8 v0, AI cy 107 h2 v2, AI cy 75 h7 v7, AI cy 3 h8 s'.2.2.2]) (K2 : ∀ e' : Int32 × Int32 × Fn, q = .inr (e') → GW p l e rmX8_bestArms s m args below meth c A D 9 0 0 Q 128 [(0, .ref h0), (1, .int x1), (2, .int x2), (3, .int e'.1), (4, .int e'.2.1), (5, .int x5)] [] [MO h0 h1 h2 h3 h4 h5 h6 h7 h8 v0, AI cy 107 h2 v2, AI cy 75 h7 v7, AI cy 3 h8 e'.2.2]) : GW p l e rmX8_bestArms s m args below meth c A D 9 0 0 Q 52 [(0, .ref h0), (1, .int x1), (2, .int x2), (3, .int z.1), (4, .int z.2.1), (5, .int x5), (6, .int z.2.2.1)] [] [MO h0 h1 h2 h3 h4 h5 h6 h7 h8 v0, AI cy 107 h2 v2, AI cy 75 h7 v7, AI cy 3 h8 z.2.2.2] := by
  unfold f_X8_bestArms_B52 at hf
  refine g_iload X dX8_bestArms_52 6 rfl ?_
  refine g_bipush X (20 : Int32) dX8_bestArms_54 (by decide) ?_
  refine g_icmp_gt X 128 dX8_bestArms_56 (by decide) (fun c880 => ?_) (fun c880 => ?_)
  · have hf := opos c880 hf
    refine g_sub [0, 1, 2, 3, 4, 5] (lv' := [(0, .ref h0), (1, .int x1), (2, .int x2), (3, .int z.1), (4, .int z.2.1), (5, .int x5)]) rfl ?_
    exact K2 (z.1, z.2.1, z.2.2.2) (Option.some.inj hf).symm
  · have hf := oneg c880 hf
    refine g_aload_n X dX8_bestArms_59 0 rfl rfl ?_
    refine g_iload_n X dX8_bestArms_60 1 rfl rfl ?_
    refine g_iload_n X dX8_bestArms_61 2 rfl rfl ?_
    refine g_iload X dX8_bestArms_62 5 rfl ?_
    refine g_iload X dX8_bestArms_64 6 rfl ?_
    obtain ⟨q875, hq875, hf⟩ := obind hf
    refine g_callV (gs' := [MO h0 h1 h2 h3 h4 h5 h6 h7 h8 v0, AI cy 107 h2 v2, AI cy 75 h7 v7, AI cy 3 h8 q875.2]) (rest := []) X dX8_bestArms_66 (c_X8_worst l D cy ad h0 h1 h2 h3 h4 h5 h6 h7 h8 v0 v7 z.2.2.2 x1 x2 x5 z.2.2.1 hq875) mf_X8_worst mv_X8_worst lkm_X8_196 ⟨(Nat.le_of_ble_eq_true rfl), (Nat.le_of_ble_eq_true rfl), (Nat.le_of_ble_eq_true rfl), (Nat.le_of_ble_eq_true rfl)⟩ 0 0 rfl rfl rfl rfl [0, 2, 3, 1] _ (by decide : [0, 2, 3, 1].Perm (List.range 4)) rfl (by decide : [0, 2, 3, 1].Perm (List.range 4)) rfl (Nat.le_of_ble_eq_true rfl) rfl ?_
    refine g_istore (lv' := [(0, .ref h0), (1, .int x1), (2, .int x2), (3, .int z.1), (4, .int z.2.1), (5, .int x5), (6, .int z.2.2.1), (7, .int q875.1)]) X dX8_bestArms_69 [1, 2, 3, 4, 5, 6, 7, 0] (Nat.le_of_ble_eq_true rfl) rfl ?_
    refine g_iload_n X dX8_bestArms_71 3 rfl rfl ?_
    refine g_iconst X (-1 : Int32) dX8_bestArms_72 (by decide) ?_
    refine g_icmp_eq X 83 dX8_bestArms_73 (by decide) (fun c879 => ?_) (fun c879 => ?_)
    · have hf := opos c879 hf
      exact j_X8_bestArms_B52_b83 X hr v0 v2 v7 q875.2 x1 x2 z.1 z.2.1 x5 z.2.2.1 q875.1 hf K1 K2
    · have hf := oneg c879 hf
      refine g_iload X dX8_bestArms_76 7 rfl ?_
      refine g_iload X dX8_bestArms_78 4 rfl ?_
      refine g_icmp_ge X 87 dX8_bestArms_80 (by decide) (fun c878 => ?_) (fun c878 => ?_)
      · have hf := opos c878 hf
        refine g_iconst X (0 : Int32) dX8_bestArms_87 (by decide) ?_
        exact j_X8_bestArms_B52_b88 X hr v0 v2 v7 q875.2 x1 x2 z.1 z.2.1 x5 z.2.2.1 q875.1 false hf K1 K2
      · have hf := oneg c878 hf
        exact j_X8_bestArms_B52_b83 X hr v0 v2 v7 q875.2 x1 x2 z.1 z.2.1 x5 z.2.2.1 q875.1 hf K1 K2
set_option maxRecDepth 100000 in
set_option maxHeartbeats 4000000 in
theorem w_X8_bestArms_B52 {p : Program} {l : Launch} {e : Env} {s : State} {m : MethodId} {args : Array Value} {below : List Frame} {meth : Method} {c : Code} {A : Nat → Prop} {D : va_G} {cy : Nat → ClassId} {ad : (Nat → Nat) × (Nat → Nat)} {Q : State → Prop} (X : gK p s m args meth c A D cy ad cX8_bestArms 9 RX8) (hr : meth.sig.returnType = (some .int)) {h0 h1 h2 h3 h4 h5 h6 h7 h8 : Nat} (v0 : MOv) (v2 : Fn) (v7 : Fn) (x1 : Int32) (x2 : Int32) (x5 : Int32) {n : Nat} {z : Int32 × Int32 × Int32 × Fn} {q : (Int32 × Int32 × Fn)} (hf : itl (f_X8_bestArms_B52 v0 v2 v7 x1 x2 x5) n z = some q) (K2 : GW p l e rmX8_bestArms s m args below meth c A D 9 0 0 Q 128 [(0, .ref h0), (1, .int x1), (2, .int x2), (3, .int q.1), (4, .int q.2.1), (5, .int x5)] [] [MO h0 h1 h2 h3 h4 h5 h6 h7 h8 v0, AI cy 107 h2 v2, AI cy 75 h7 v7, AI cy 3 h8 q.2.2]) : GW p l e rmX8_bestArms s m args below meth c A D 9 0 0 Q 52 [(0, .ref h0), (1, .int x1), (2, .int x2), (3, .int z.1), (4, .int z.2.1), (5, .int x5), (6, .int z.2.2.1)] [] [MO h0 h1 h2 h3 h4 h5 h6 h7 h8 v0, AI cy 107 h2 v2, AI cy 75 h7 v7, AI cy 3 h8 z.2.2.2] :=
  itl_ind (f := f_X8_bestArms_B52 v0 v2 v7 x1 x2 x5) (I := fun z => GW p l e rmX8_bestArms s m args below meth c A D 9 0 0 Q 52 [(0, .ref h0), (1, .int x1), (2, .int x2), (3, .int z.1), (4, .int z.2.1), (5, .int x5), (6, .int z.2.2.1)] [] [MO h0 h1 h2 h3 h4 h5 h6 h7 h8 v0, AI cy 107 h2 v2, AI cy 75 h7 v7, AI cy 3 h8 z.2.2.2]) (J := (fun q => GW p l e rmX8_bestArms s m args below meth c A D 9 0 0 Q 128 [(0, .ref h0), (1, .int x1), (2, .int x2), (3, .int q.1), (4, .int q.2.1), (5, .int x5)] [] [MO h0 h1 h2 h3 h4 h5 h6 h7 h8 v0, AI cy 107 h2 v2, AI cy 75 h7 v7, AI cy 3 h8 q.2.2])) (fun z x h k1 k2 => b_X8_bestArms_B52 X hr v0 v2 v7 x1 x2 x5 z h (fun s' hs => k1 s' hs) (fun e' he => k2 e' he)) n z q hf K2
def f_X8_bestArms_B42 (v0 : MOv) (v2 : Fn) (v7 : Fn) (x1 : Int32) (x2 : Int32) (z : Int32 × Int32 × Int32 × Fn) : Option ((Int32 × Int32 × Int32 × Fn) ⊕ ((Int32 × Fn))) :=
  if (20 : Int32) < z.2.2.1 then some (.inr ((z.1, z.2.2.2))) else (itl (f_X8_bestArms_B52 v0 v2 v7 x1 x2 z.2.2.1) FU (z.1, z.2.1, (1 : Int32), z.2.2.2)).bind (fun q881 => some (.inl (q881.1, q881.2.1, (z.2.2.1 + (1 : Int32)), q881.2.2)))
set_option maxRecDepth 100000 in
set_option maxHeartbeats 4000000 in
theorem b_X8_bestArms_B42 {p : Program} {l : Launch} {e : Env} {s : State} {m : MethodId} {args : Array Value} {below : List Frame} {meth : Method} {c : Code} {A : Nat → Prop} {D : va_G} {cy : Nat → ClassId} {ad : (Nat → Nat) × (Nat → Nat)} {Q : State → Prop} (X : gK p s m args meth c A D cy ad cX8_bestArms 9 RX8) (hr : meth.sig.returnType = (some .int)) {h0 h1 h2 h3 h4 h5 h6 h7 h8 : Nat} (v0 : MOv) (v2 : Fn) (v7 : Fn) (x1 : Int32) (x2 : Int32) (z : Int32 × Int32 × Int32 × Fn) {q : (Int32 × Int32 × Int32 × Fn) ⊕ ((Int32 × Fn))} (hf : f_X8_bestArms_B42 v0 v2 v7 x1 x2 z = some q) (K1 : ∀ s' : Int32 × Int32 × Int32 × Fn, q = .inl s' → GW p l e rmX8_bestArms s m args below meth c A D 9 0 0 Q 42 [(0, .ref h0), (1, .int x1), (2, .int x2), (3, .int s'.1), (4, .int s'.2.1), (5, .int s'.2.2.1)] [] [MO h0 h1 h2 h3 h4 h5 h6 h7 h8 v0, AI cy 107 h2 v2, AI cy 75 h7 v7, AI cy 3 h8 s'.2.2.2]) (K2 : ∀ e' : Int32 × Fn, q = .inr (e') → GW p l e rmX8_bestArms s m args below meth c A D 9 0 0 Q 134 [(3, .int e'.1)] [] [MO h0 h1 h2 h3 h4 h5 h6 h7 h8 v0, AI cy 107 h2 v2, AI cy 75 h7 v7, AI cy 3 h8 e'.2]) : GW p l e rmX8_bestArms s m args below meth c A D 9 0 0 Q 42 [(0, .ref h0), (1, .int x1), (2, .int x2), (3, .int z.1), (4, .int z.2.1), (5, .int z.2.2.1)] [] [MO h0 h1 h2 h3 h4 h5 h6 h7 h8 v0, AI cy 107 h2 v2, AI cy 75 h7 v7, AI cy 3 h8 z.2.2.2] := by
  unfold f_X8_bestArms_B42 at hf
  refine g_iload X dX8_bestArms_42 5 rfl ?_
  refine g_bipush X (20 : Int32) dX8_bestArms_44 (by decide) ?_
  refine g_icmp_gt X 134 dX8_bestArms_46 (by decide) (fun c882 => ?_) (fun c882 => ?_)
  · have hf := opos c882 hf
    refine g_sub [3] (lv' := [(3, .int z.1)]) rfl ?_
    exact K2 (z.1, z.2.2.2) (Option.some.inj hf).symm
  · have hf := oneg c882 hf
    refine g_iconst X (1 : Int32) dX8_bestArms_49 (by decide) ?_
    refine g_istore (lv' := [(0, .ref h0), (1, .int x1), (2, .int x2), (3, .int z.1), (4, .int z.2.1), (5, .int z.2.2.1), (6, .int (1 : Int32))]) X dX8_bestArms_50 [1, 2, 3, 4, 5, 6, 0] (Nat.le_of_ble_eq_true rfl) rfl ?_
    obtain ⟨q881, hq881, hf⟩ := obind hf
    refine w_X8_bestArms_B52 X hr v0 v2 v7 x1 x2 z.2.2.1 hq881 ?_
    refine g_iinc (lv' := [(0, .ref h0), (1, .int x1), (2, .int x2), (3, .int q881.1), (4, .int q881.2.1), (5, .int (z.2.2.1 + (1 : Int32)))]) (v := (1 : Int32)) X dX8_bestArms_128 5 rfl (by decide) [1, 2, 3, 4, 5, 0] (Nat.le_of_ble_eq_true rfl) rfl ?_
    refine g_goto X 42 dX8_bestArms_131 (by decide) ?_
    exact K1 (q881.1, q881.2.1, (z.2.2.1 + (1 : Int32)), q881.2.2) (Option.some.inj hf).symm
set_option maxRecDepth 100000 in
set_option maxHeartbeats 4000000 in
theorem w_X8_bestArms_B42 {p : Program} {l : Launch} {e : Env} {s : State} {m : MethodId} {args : Array Value} {below : List Frame} {meth : Method} {c : Code} {A : Nat → Prop} {D : va_G} {cy : Nat → ClassId} {ad : (Nat → Nat) × (Nat → Nat)} {Q : State → Prop} (X : gK p s m args meth c A D cy ad cX8_bestArms 9 RX8) (hr : meth.sig.returnType = (some .int)) {h0 h1 h2 h3 h4 h5 h6 h7 h8 : Nat} (v0 : MOv) (v2 : Fn) (v7 : Fn) (x1 : Int32) (x2 : Int32) {n : Nat} {z : Int32 × Int32 × Int32 × Fn} {q : (Int32 × Fn)} (hf : itl (f_X8_bestArms_B42 v0 v2 v7 x1 x2) n z = some q) (K2 : GW p l e rmX8_bestArms s m args below meth c A D 9 0 0 Q 134 [(3, .int q.1)] [] [MO h0 h1 h2 h3 h4 h5 h6 h7 h8 v0, AI cy 107 h2 v2, AI cy 75 h7 v7, AI cy 3 h8 q.2]) : GW p l e rmX8_bestArms s m args below meth c A D 9 0 0 Q 42 [(0, .ref h0), (1, .int x1), (2, .int x2), (3, .int z.1), (4, .int z.2.1), (5, .int z.2.2.1)] [] [MO h0 h1 h2 h3 h4 h5 h6 h7 h8 v0, AI cy 107 h2 v2, AI cy 75 h7 v7, AI cy 3 h8 z.2.2.2] :=
  itl_ind (f := f_X8_bestArms_B42 v0 v2 v7 x1 x2) (I := fun z => GW p l e rmX8_bestArms s m args below meth c A D 9 0 0 Q 42 [(0, .ref h0), (1, .int x1), (2, .int x2), (3, .int z.1), (4, .int z.2.1), (5, .int z.2.2.1)] [] [MO h0 h1 h2 h3 h4 h5 h6 h7 h8 v0, AI cy 107 h2 v2, AI cy 75 h7 v7, AI cy 3 h8 z.2.2.2]) (J := (fun q => GW p l e rmX8_bestArms s m args below meth c A D 9 0 0 Q 134 [(3, .int q.1)] [] [MO h0 h1 h2 h3 h4 h5 h6 h7 h8 v0, AI cy 107 h2 v2, AI cy 75 h7 v7, AI cy 3 h8 q.2])) (fun z x h k1 k2 => b_X8_bestArms_B42 X hr v0 v2 v7 x1 x2 z h (fun s' hs => k1 s' hs) (fun e' he => k2 e' he)) n z q hf K2
def f_X8_bestArms_b18 (v0 : MOv) (v2 : Fn) (v7 : Fn) (v8 : Fn) (x1 : Int32) (x2 : Int32) (y0 : Bool) : Option (Int32 × MOv × Fn × Fn) :=
  (f_X8_refused v0 (b2i y0)).bind (fun q873 => if (b2i q873.1) = 0 then (f_X8_gather q873.2 v7 v2).bind (fun q874 => (itl (f_X8_bestArms_B42 q874.1 v2 q874.2 x1 x2) FU ((-1 : Int32), (0 : Int32), (1 : Int32), v8)).bind (fun q883 => some (q883.1, q874.1, q874.2, q883.2))) else some ((0 : Int32), q873.2, v7, v8))
set_option maxRecDepth 100000 in
set_option maxHeartbeats 4000000 in
theorem j_X8_bestArms_b18 {p : Program} {l : Launch} {e : Env} {s : State} {m : MethodId} {args : Array Value} {below : List Frame} {meth : Method} {c : Code} {A : Nat → Prop} {D : va_G} {cy : Nat → ClassId} {ad : (Nat → Nat) × (Nat → Nat)} (X : gK p s m args meth c A D cy ad cX8_bestArms 9 RX8) (hr : meth.sig.returnType = (some .int)) {h0 h1 h2 h3 h4 h5 h6 h7 h8 : Nat} (v0 : MOv) (v2 : Fn) (v7 : Fn) (v8 : Fn) (x1 : Int32) (x2 : Int32) (y0 : Bool) {q : Int32 × MOv × Fn × Fn} (hf : f_X8_bestArms_b18 v0 v2 v7 v8 x1 x2 y0 = some q) : GW p l e rmX8_bestArms s m args below meth c A D 9 0 0 (MQ below (cmQ D cy A (some (.int q.1)) ([MO h0 h1 h2 h3 h4 h5 h6 h7 h8 q.2.1, AI cy 107 h2 v2, AI cy 75 h7 q.2.2.1, AI cy 3 h8 q.2.2.2] : List va_W).flatten) args s 0 0 A) 18 [(0, .ref h0), (1, .int x1), (2, .int x2)] [.int (b2i y0), .ref h0] [MO h0 h1 h2 h3 h4 h5 h6 h7 h8 v0, AI cy 107 h2 v2, AI cy 75 h7 v7, AI cy 3 h8 v8] := by
  unfold f_X8_bestArms_b18 at hf
  obtain ⟨q873, hq873, hf⟩ := obind hf
  refine g_callV (gs' := [MO h0 h1 h2 h3 h4 h5 h6 h7 h8 q873.2, AI cy 107 h2 v2, AI cy 75 h7 v7, AI cy 3 h8 v8]) (rest := []) X dX8_bestArms_18 (c_X8_refused l D cy ad h0 h1 h2 h3 h4 h5 h6 h7 h8 v0 (b2i y0) hq873) mf_X8_refused mv_X8_refused lkm_X8_102 ⟨(Nat.le_of_ble_eq_true rfl), (Nat.le_of_ble_eq_true rfl), (Nat.le_of_ble_eq_true rfl), (Nat.le_of_ble_eq_true rfl)⟩ 0 0 rfl rfl rfl rfl [0, 1, 2, 3] _ (by decide : [0, 1, 2, 3].Perm (List.range 4)) rfl (by decide : [0, 1, 2, 3].Perm (List.range 4)) rfl (Nat.le_of_ble_eq_true rfl) rfl ?_
  refine g_if_eq X 26 dX8_bestArms_21 (by decide) (fun c884 => ?_) (fun c884 => ?_)
  · have hf := opos c884 hf
    refine g_aload_n X dX8_bestArms_26 0 rfl rfl ?_
    refine g_aload_n X dX8_bestArms_27 0 rfl rfl ?_
    refine g_get X dX8_bestArms_28 ck_X8 0 0 3 rfl rfl (Nat.le_of_ble_eq_true rfl) lkf_X8_13 rfl ?_
    obtain ⟨q874, hq874, hf⟩ := obind hf
    refine g_callV (gs' := [MO h0 h1 h2 h3 h4 h5 h6 h7 h8 q874.1, AI cy 107 h2 v2, AI cy 75 h7 q874.2, AI cy 3 h8 v8]) (rest := []) X dX8_bestArms_31 (c_X8_gather l D cy ad h0 h1 h2 h3 h4 h5 h6 h7 h8 h2 q873.2 v7 v2 hq874) mf_X8_gather mv_X8_gather lkm_X8_193 ⟨(Nat.le_of_ble_eq_true rfl), (Nat.le_of_ble_eq_true rfl), (Nat.le_of_ble_eq_true rfl), (Nat.le_of_ble_eq_true rfl)⟩ 0 0 rfl rfl rfl rfl [0, 2, 1, 3] _ (by decide : [0, 2, 1, 3].Perm (List.range 4)) rfl (by decide : [0, 2, 1, 3].Perm (List.range 4)) rfl (Nat.le_of_ble_eq_true rfl) rfl ?_
    refine g_iconst X (-1 : Int32) dX8_bestArms_34 (by decide) ?_
    refine g_istore_n (lv' := [(0, .ref h0), (1, .int x1), (2, .int x2), (3, .int (-1 : Int32))]) X dX8_bestArms_35 [1, 2, 3, 0] rfl (Nat.le_of_ble_eq_true rfl) rfl ?_
    refine g_iconst X (0 : Int32) dX8_bestArms_36 (by decide) ?_
    refine g_istore (lv' := [(0, .ref h0), (1, .int x1), (2, .int x2), (3, .int (-1 : Int32)), (4, .int (0 : Int32))]) X dX8_bestArms_37 [1, 2, 3, 4, 0] (Nat.le_of_ble_eq_true rfl) rfl ?_
    refine g_iconst X (1 : Int32) dX8_bestArms_39 (by decide) ?_
    refine g_istore (lv' := [(0, .ref h0), (1, .int x1), (2, .int x2), (3, .int (-1 : Int32)), (4, .int (0 : Int32)), (5, .int (1 : Int32))]) X dX8_bestArms_40 [1, 2, 3, 4, 5, 0] (Nat.le_of_ble_eq_true rfl) rfl ?_
    obtain ⟨q883, hq883, hf⟩ := obind hf
    refine w_X8_bestArms_B42 X hr q874.1 v2 q874.2 x1 x2 hq883 ?_
    refine g_iload_n X dX8_bestArms_134 0 rfl rfl ?_
    have hf := Option.some.inj hf
    subst hf
    exact g_iret X hr dX8_bestArms_135
  · have hf := oneg c884 hf
    refine g_iconst X (0 : Int32) dX8_bestArms_24 (by decide) ?_
    have hf := Option.some.inj hf
    subst hf
    exact g_iret X hr dX8_bestArms_25
def f_X8_bestArms (v0 : MOv) (v2 : Fn) (v7 : Fn) (v8 : Fn) (p1 : Int32) (p2 : Int32) : Option (Int32 × MOv × Fn × Fn) :=
  (f_X8_isWeighing v2 p1 p2).bind (fun q872 => if (b2i q872) = 0 then f_X8_bestArms_b18 v0 v2 v7 v8 p1 p2 true else f_X8_bestArms_b18 v0 v2 v7 v8 p1 p2 false)
set_option maxRecDepth 100000 in
set_option maxHeartbeats 4000000 in
theorem c_X8_bestArms (l : Launch) (D : va_G) (cy : Nat → ClassId) (ad : (Nat → Nat) × (Nat → Nat)) (h0 h1 h2 h3 h4 h5 h6 h7 h8 : Nat) (v0 : MOv) (v2 : Fn) (v7 : Fn) (v8 : Fn) (p1 : Int32) (p2 : Int32) {q : Int32 × MOv × Fn × Fn} (hf : f_X8_bestArms v0 v2 v7 v8 p1 p2 = some q) : CM l yX8_bestArms cX8_bestArms 9 (some .int) rmX8_bestArms D cy ad [.ref h0, .int p1, .int p2] [MO h0 h1 h2 h3 h4 h5 h6 h7 h8 v0, AI cy 107 h2 v2, AI cy 75 h7 v7, AI cy 3 h8 v8] (some (.int q.1)) [MO h0 h1 h2 h3 h4 h5 h6 h7 h8 q.2.1, AI cy 107 h2 v2, AI cy 75 h7 q.2.2.1, AI cy 3 h8 q.2.2.2] := by
  refine cm_of (lv0 := [(0, .ref h0), (1, .int p1), (2, .int p2)]) (by decide) (Nat.le_of_ble_eq_true rfl) rfl ?_
  intro p e s m args below meth c A X hr hn
  have X : gK p s m args meth c A D cy ad cX8_bestArms 9 RX8 := X
  unfold f_X8_bestArms at hf
  refine g_aload_n X dX8_bestArms_0 0 rfl rfl ?_
  refine g_aload_n X dX8_bestArms_1 0 rfl rfl ?_
  refine g_get X dX8_bestArms_2 ck_X8 0 0 3 rfl rfl (Nat.le_of_ble_eq_true rfl) lkf_X8_13 rfl ?_
  refine g_iload_n X dX8_bestArms_5 1 rfl rfl ?_
  refine g_iload_n X dX8_bestArms_6 2 rfl rfl ?_
  obtain ⟨q872, hq872, hf⟩ := obind hf
  refine g_callS (gs' := [MO h0 h1 h2 h3 h4 h5 h6 h7 h8 v0, AI cy 107 h2 v2, AI cy 75 h7 v7, AI cy 3 h8 v8]) (rest := [.ref h0]) X dX8_bestArms_7 (c_X8_isWeighing l D cy ad h2 v2 p1 p2 hq872) mf_X8_isWeighing ms_X8_isWeighing lkm_X8_90 ⟨(Nat.le_of_ble_eq_true rfl), (Nat.le_of_ble_eq_true rfl), (Nat.le_of_ble_eq_true rfl), (Nat.le_of_ble_eq_true rfl)⟩ [1, 0, 2, 3] _ (by decide : [1, 0, 2, 3].Perm (List.range 4)) rfl (by decide : [1, 0, 2, 3].Perm (List.range 4)) rfl (Nat.le_of_ble_eq_true rfl) rfl ?_
  refine g_if_eq X 17 dX8_bestArms_10 (by decide) (fun c885 => ?_) (fun c885 => ?_)
  · have hf := opos c885 hf
    refine g_iconst X (1 : Int32) dX8_bestArms_17 (by decide) ?_
    exact j_X8_bestArms_b18 X hr v0 v2 v7 v8 p1 p2 true hf
  · have hf := oneg c885 hf
    refine g_iconst X (0 : Int32) dX8_bestArms_13 (by decide) ?_
    refine g_goto X 18 dX8_bestArms_14 (by decide) ?_
    exact j_X8_bestArms_b18 X hr v0 v2 v7 v8 p1 p2 false hf
abbrev rmX8_weighs : Room := ({ frames := 4, cells := 0, slots := 0, locals := 93 } : Room)
def f_X8_weighs_b28 (v0 : MOv) (v3 : Fn) (x1 : Int32) (y0 : Int32) : Option (Bool × Fn) :=
  (f_X8_isCoin v3 x1).bind (fun q895 => if (b2i q895) = 0 then some (false, v3) else if y0 = (-1 : Int32) then some (false, v3) else (f_X8_canWeigh v3 ((1 : Int32) <<< (x1 &&& 31)) y0).bind (fun q896 => if (b2i q896) = 0 then some (false, v3) else (f_X8_weighOn v3 ((1 : Int32) <<< (x1 &&& 31)) y0).bind (fun q897 => if q897.1 < 0 then some (false, q897.2) else some (true, q897.2))))
set_option maxRecDepth 100000 in
set_option maxHeartbeats 4000000 in
theorem j_X8_weighs_b28 {p : Program} {l : Launch} {e : Env} {s : State} {m : MethodId} {args : Array Value} {below : List Frame} {meth : Method} {c : Code} {A : Nat → Prop} {D : va_G} {cy : Nat → ClassId} {ad : (Nat → Nat) × (Nat → Nat)} (X : gK p s m args meth c A D cy ad cX8_weighs 4 RX8) (hr : meth.sig.returnType = (some .boolean)) {h0 h1 h2 h3 h4 h5 h6 h7 h8 : Nat} (v0 : MOv) (v3 : Fn) (x1 : Int32) (y0 : Int32) {q : Bool × Fn} (hf : f_X8_weighs_b28 v0 v3 x1 y0 = some q) : GW p l e rmX8_weighs s m args below meth c A D 4 0 0 (MQ below (cmQ D cy A (some (.int (b2i q.1))) ([MO h0 h1 h2 h3 h4 h5 h6 h7 h8 v0, AI cy 107 h3 q.2] : List va_W).flatten) args s 0 0 A) 28 [(0, .ref h0), (1, .int x1)] [.int y0] [MO h0 h1 h2 h3 h4 h5 h6 h7 h8 v0, AI cy 107 h3 v3] := by
  unfold f_X8_weighs_b28 at hf
  refine g_istore_n (lv' := [(0, .ref h0), (1, .int x1), (3, .int y0)]) X dX8_weighs_28 [1, 2, 0] rfl (Nat.le_of_ble_eq_true rfl) rfl ?_
  refine g_aload_n X dX8_weighs_29 0 rfl rfl ?_
  refine g_get X dX8_weighs_30 ck_X8 0 0 4 rfl rfl (Nat.le_of_ble_eq_true rfl) lkf_X8_16 rfl ?_
  refine g_iload_n X dX8_weighs_33 1 rfl rfl ?_
  obtain ⟨q895, hq895, hf⟩ := obind hf
  refine g_callS (gs' := [MO h0 h1 h2 h3 h4 h5 h6 h7 h8 v0, AI cy 107 h3 v3]) (rest := []) X dX8_weighs_34 (c_X8_isCoin l D cy ad h3 v3 x1 hq895) mf_X8_isCoin ms_X8_isCoin lkm_X8_163 ⟨(Nat.le_of_ble_eq_true rfl), (Nat.le_of_ble_eq_true rfl), (Nat.le_of_ble_eq_true rfl), (Nat.le_of_ble_eq_true rfl)⟩ [1, 0] _ (by decide : [1, 0].Perm (List.range 2)) rfl (by decide : [1, 0].Perm (List.range 2)) rfl (Nat.le_of_ble_eq_true rfl) rfl ?_
  refine g_if_eq X 77 dX8_weighs_37 (by decide) (fun c901 => ?_) (fun c901 => ?_)
  · have hf := opos c901 hf
    refine g_iconst X (0 : Int32) dX8_weighs_77 (by decide) ?_
    have hf := Option.some.inj hf
    subst hf
    exact g_zret (b := false) X hr dX8_weighs_78
  · have hf := oneg c901 hf
    refine g_iload_n X dX8_weighs_40 2 rfl rfl ?_
    refine g_iconst X (-1 : Int32) dX8_weighs_41 (by decide) ?_
    refine g_icmp_eq X 77 dX8_weighs_42 (by decide) (fun c900 => ?_) (fun c900 => ?_)
    · have hf := opos c900 hf
      refine g_iconst X (0 : Int32) dX8_weighs_77 (by decide) ?_
      have hf := Option.some.inj hf
      subst hf
      exact g_zret (b := false) X hr dX8_weighs_78
    · have hf := oneg c900 hf
      refine g_aload_n X dX8_weighs_45 0 rfl rfl ?_
      refine g_get X dX8_weighs_46 ck_X8 0 0 4 rfl rfl (Nat.le_of_ble_eq_true rfl) lkf_X8_16 rfl ?_
      refine g_iconst X (1 : Int32) dX8_weighs_49 (by decide) ?_
      refine g_iload_n X dX8_weighs_50 1 rfl rfl ?_
      refine g_ishl X dX8_weighs_51 ?_
      refine g_iload_n X dX8_weighs_52 2 rfl rfl ?_
      obtain ⟨q896, hq896, hf⟩ := obind hf
      refine g_callS (gs' := [MO h0 h1 h2 h3 h4 h5 h6 h7 h8 v0, AI cy 107 h3 v3]) (rest := []) X dX8_weighs_53 (c_X8_canWeigh l D cy ad h3 v3 ((1 : Int32) <<< (x1 &&& 31)) y0 hq896) mf_X8_canWeigh ms_X8_canWeigh lkm_X8_123 ⟨(Nat.le_of_ble_eq_true rfl), (Nat.le_of_ble_eq_true rfl), (Nat.le_of_ble_eq_true rfl), (Nat.le_of_ble_eq_true rfl)⟩ [1, 0] _ (by decide : [1, 0].Perm (List.range 2)) rfl (by decide : [1, 0].Perm (List.range 2)) rfl (Nat.le_of_ble_eq_true rfl) rfl ?_
      refine g_if_eq X 77 dX8_weighs_56 (by decide) (fun c899 => ?_) (fun c899 => ?_)
      · have hf := opos c899 hf
        refine g_iconst X (0 : Int32) dX8_weighs_77 (by decide) ?_
        have hf := Option.some.inj hf
        subst hf
        exact g_zret (b := false) X hr dX8_weighs_78
      · have hf := oneg c899 hf
        refine g_aload_n X dX8_weighs_59 0 rfl rfl ?_
        refine g_get X dX8_weighs_60 ck_X8 0 0 4 rfl rfl (Nat.le_of_ble_eq_true rfl) lkf_X8_16 rfl ?_
        refine g_iconst X (1 : Int32) dX8_weighs_63 (by decide) ?_
        refine g_iload_n X dX8_weighs_64 1 rfl rfl ?_
        refine g_ishl X dX8_weighs_65 ?_
        refine g_iload_n X dX8_weighs_66 2 rfl rfl ?_
        obtain ⟨q897, hq897, hf⟩ := obind hf
        refine g_callS (gs' := [MO h0 h1 h2 h3 h4 h5 h6 h7 h8 v0, AI cy 107 h3 q897.2]) (rest := []) X dX8_weighs_67 (c_X8_weighOn l D cy ad h3 v3 ((1 : Int32) <<< (x1 &&& 31)) y0 hq897) mf_X8_weighOn ms_X8_weighOn lkm_X8_126 ⟨(Nat.le_of_ble_eq_true rfl), (Nat.le_of_ble_eq_true rfl), (Nat.le_of_ble_eq_true rfl), (Nat.le_of_ble_eq_true rfl)⟩ [1, 0] _ (by decide : [1, 0].Perm (List.range 2)) rfl (by decide : [1, 0].Perm (List.range 2)) rfl (Nat.le_of_ble_eq_true rfl) rfl ?_
        refine g_if_lt X 77 dX8_weighs_70 (by decide) (fun c898 => ?_) (fun c898 => ?_)
        · have hf := opos c898 hf
          refine g_iconst X (0 : Int32) dX8_weighs_77 (by decide) ?_
          have hf := Option.some.inj hf
          subst hf
          exact g_zret (b := false) X hr dX8_weighs_78
        · have hf := oneg c898 hf
          refine g_iconst X (1 : Int32) dX8_weighs_73 (by decide) ?_
          refine g_goto X 78 dX8_weighs_74 (by decide) ?_
          have hf := Option.some.inj hf
          subst hf
          exact g_zret (b := true) X hr dX8_weighs_78
def f_X8_weighs (v0 : MOv) (v3 : Fn) (p1 : Int32) (p2 : Int32) : Option (Bool × Fn) :=
  if p2 = (99 : Int32) then f_X8_weighs_b28 v0 v3 p1 (0 : Int32) else (f_X8_isCoin v3 p2).bind (fun q894 => if (b2i q894) = 0 then f_X8_weighs_b28 v0 v3 p1 (-1 : Int32) else f_X8_weighs_b28 v0 v3 p1 ((1 : Int32) <<< (p2 &&& 31)))
set_option maxRecDepth 100000 in
set_option maxHeartbeats 4000000 in
theorem c_X8_weighs (l : Launch) (D : va_G) (cy : Nat → ClassId) (ad : (Nat → Nat) × (Nat → Nat)) (h0 h1 h2 h3 h4 h5 h6 h7 h8 : Nat) (v0 : MOv) (v3 : Fn) (p1 : Int32) (p2 : Int32) {q : Bool × Fn} (hf : f_X8_weighs v0 v3 p1 p2 = some q) : CM l yX8_weighs cX8_weighs 4 (some .boolean) rmX8_weighs D cy ad [.ref h0, .int p1, .int p2] [MO h0 h1 h2 h3 h4 h5 h6 h7 h8 v0, AI cy 107 h3 v3] (some (.int (b2i q.1))) [MO h0 h1 h2 h3 h4 h5 h6 h7 h8 v0, AI cy 107 h3 q.2] := by
  refine cm_of (lv0 := [(0, .ref h0), (1, .int p1), (2, .int p2)]) (by decide) (Nat.le_of_ble_eq_true rfl) rfl ?_
  intro p e s m args below meth c A X hr hn
  have X : gK p s m args meth c A D cy ad cX8_weighs 4 RX8 := X
  unfold f_X8_weighs at hf
  refine g_iload_n X dX8_weighs_0 2 rfl rfl ?_
  refine g_bipush X (99 : Int32) dX8_weighs_1 (by decide) ?_
  refine g_icmp_ne X 10 dX8_weighs_3 (by decide) (fun c903 => ?_) (fun c903 => ?_)
  · have hf := oneg c903 hf
    refine g_aload_n X dX8_weighs_10 0 rfl rfl ?_
    refine g_get X dX8_weighs_11 ck_X8 0 0 4 rfl rfl (Nat.le_of_ble_eq_true rfl) lkf_X8_16 rfl ?_
    refine g_iload_n X dX8_weighs_14 2 rfl rfl ?_
    obtain ⟨q894, hq894, hf⟩ := obind hf
    refine g_callS (gs' := [MO h0 h1 h2 h3 h4 h5 h6 h7 h8 v0, AI cy 107 h3 v3]) (rest := []) X dX8_weighs_15 (c_X8_isCoin l D cy ad h3 v3 p2 hq894) mf_X8_isCoin ms_X8_isCoin lkm_X8_163 ⟨(Nat.le_of_ble_eq_true rfl), (Nat.le_of_ble_eq_true rfl), (Nat.le_of_ble_eq_true rfl), (Nat.le_of_ble_eq_true rfl)⟩ [1, 0] _ (by decide : [1, 0].Perm (List.range 2)) rfl (by decide : [1, 0].Perm (List.range 2)) rfl (Nat.le_of_ble_eq_true rfl) rfl ?_
    refine g_if_eq X 27 dX8_weighs_18 (by decide) (fun c902 => ?_) (fun c902 => ?_)
    · have hf := opos c902 hf
      refine g_iconst X (-1 : Int32) dX8_weighs_27 (by decide) ?_
      refine g_sub [0, 1] (lv' := [(0, .ref h0), (1, .int p1)]) rfl ?_
      exact j_X8_weighs_b28 X hr v0 v3 p1 (-1 : Int32) hf
    · have hf := oneg c902 hf
      refine g_iconst X (1 : Int32) dX8_weighs_21 (by decide) ?_
      refine g_iload_n X dX8_weighs_22 2 rfl rfl ?_
      refine g_ishl X dX8_weighs_23 ?_
      refine g_goto X 28 dX8_weighs_24 (by decide) ?_
      refine g_sub [0, 1] (lv' := [(0, .ref h0), (1, .int p1)]) rfl ?_
      exact j_X8_weighs_b28 X hr v0 v3 p1 ((1 : Int32) <<< (p2 &&& 31)) hf
  · have hf := opos c903 hf
    refine g_iconst X (0 : Int32) dX8_weighs_6 (by decide) ?_
    refine g_goto X 28 dX8_weighs_7 (by decide) ?_
    refine g_sub [0, 1] (lv' := [(0, .ref h0), (1, .int p1)]) rfl ?_
    exact j_X8_weighs_b28 X hr v0 v3 p1 (0 : Int32) hf
abbrev rmX8_command : Room := ({ frames := 7, cells := 0, slots := 0, locals := 160 } : Room)
def f_X8_command_b186 (v0 : MOv) (v3 : Fn) (y0 : Bool) : Option (Bool × Fn) :=
  (f_X8_told v3 y0).bind (fun q955 => if q955.1 = (1 : Int32) then some (true, q955.2) else some (false, q955.2))
set_option maxRecDepth 100000 in
set_option maxHeartbeats 4000000 in
theorem j_X8_command_b186 {p : Program} {l : Launch} {e : Env} {s : State} {m : MethodId} {args : Array Value} {below : List Frame} {meth : Method} {c : Code} {A : Nat → Prop} {D : va_G} {cy : Nat → ClassId} {ad : (Nat → Nat) × (Nat → Nat)} (X : gK p s m args meth c A D cy ad cX8_command 6 RX8) (hr : meth.sig.returnType = (some .boolean)) {h0 h1 h2 h3 h4 h5 h6 h7 h8 : Nat} (v0 : MOv) (v3 : Fn) (y0 : Bool) {q : Bool × Fn} (hf : f_X8_command_b186 v0 v3 y0 = some q) : GW p l e rmX8_command s m args below meth c A D 6 0 0 (MQ below (cmQ D cy A (some (.int (b2i q.1))) ([MO h0 h1 h2 h3 h4 h5 h6 h7 h8 v0, AI cy 107 h3 q.2] : List va_W).flatten) args s 0 0 A) 186 [] [.int (b2i y0), .ref h3] [MO h0 h1 h2 h3 h4 h5 h6 h7 h8 v0, AI cy 107 h3 v3] := by
  unfold f_X8_command_b186 at hf
  obtain ⟨q955, hq955, hf⟩ := obind hf
  refine g_callS (gs' := [MO h0 h1 h2 h3 h4 h5 h6 h7 h8 v0, AI cy 107 h3 q955.2]) (rest := []) X dX8_command_186 (c_X8_told l D cy ad h3 v3 y0 hq955) mf_X8_told ms_X8_told lkm_X8_93 ⟨(Nat.le_of_ble_eq_true rfl), (Nat.le_of_ble_eq_true rfl), (Nat.le_of_ble_eq_true rfl), (Nat.le_of_ble_eq_true rfl)⟩ [1, 0] _ (by decide : [1, 0].Perm (List.range 2)) rfl (by decide : [1, 0].Perm (List.range 2)) rfl (Nat.le_of_ble_eq_true rfl) rfl ?_
  refine g_iconst X (1 : Int32) dX8_command_189 (by decide) ?_
  refine g_icmp_ne X 197 dX8_command_190 (by decide) (fun c956 => ?_) (fun c956 => ?_)
  · have hf := oneg c956 hf
    refine g_iconst X (0 : Int32) dX8_command_197 (by decide) ?_
    have hf := Option.some.inj hf
    subst hf
    exact g_zret (b := false) X hr dX8_command_198
  · have hf := opos c956 hf
    refine g_iconst X (1 : Int32) dX8_command_193 (by decide) ?_
    refine g_goto X 198 dX8_command_194 (by decide) ?_
    have hf := Option.some.inj hf
    subst hf
    exact g_zret (b := true) X hr dX8_command_198
def f_X8_command_b137 (v0 : MOv) (v3 : Fn) (y0 : Bool) (y1 : Int32) : Option (Bool × Fn) :=
  (f_X8_accuseOn v3 y1 y0).bind (fun q961 => if q961.1 = (1 : Int32) then some (true, q961.2) else some (false, q961.2))
set_option maxRecDepth 100000 in
set_option maxHeartbeats 4000000 in
theorem j_X8_command_b137 {p : Program} {l : Launch} {e : Env} {s : State} {m : MethodId} {args : Array Value} {below : List Frame} {meth : Method} {c : Code} {A : Nat → Prop} {D : va_G} {cy : Nat → ClassId} {ad : (Nat → Nat) × (Nat → Nat)} (X : gK p s m args meth c A D cy ad cX8_command 6 RX8) (hr : meth.sig.returnType = (some .boolean)) {h0 h1 h2 h3 h4 h5 h6 h7 h8 : Nat} (v0 : MOv) (v3 : Fn) (y0 : Bool) (y1 : Int32) {q : Bool × Fn} (hf : f_X8_command_b137 v0 v3 y0 y1 = some q) : GW p l e rmX8_command s m args below meth c A D 6 0 0 (MQ below (cmQ D cy A (some (.int (b2i q.1))) ([MO h0 h1 h2 h3 h4 h5 h6 h7 h8 v0, AI cy 107 h3 q.2] : List va_W).flatten) args s 0 0 A) 137 [] [.int (b2i y0), .int y1, .ref h3] [MO h0 h1 h2 h3 h4 h5 h6 h7 h8 v0, AI cy 107 h3 v3] := by
  unfold f_X8_command_b137 at hf
  obtain ⟨q961, hq961, hf⟩ := obind hf
  refine g_callS (gs' := [MO h0 h1 h2 h3 h4 h5 h6 h7 h8 v0, AI cy 107 h3 q961.2]) (rest := []) X dX8_command_137 (c_X8_accuseOn l D cy ad h3 v3 y1 y0 hq961) mf_X8_accuseOn ms_X8_accuseOn lkm_X8_184 ⟨(Nat.le_of_ble_eq_true rfl), (Nat.le_of_ble_eq_true rfl), (Nat.le_of_ble_eq_true rfl), (Nat.le_of_ble_eq_true rfl)⟩ [1, 0] _ (by decide : [1, 0].Perm (List.range 2)) rfl (by decide : [1, 0].Perm (List.range 2)) rfl (Nat.le_of_ble_eq_true rfl) rfl ?_
  refine g_iconst X (1 : Int32) dX8_command_140 (by decide) ?_
  refine g_icmp_ne X 148 dX8_command_141 (by decide) (fun c962 => ?_) (fun c962 => ?_)
  · have hf := oneg c962 hf
    refine g_iconst X (0 : Int32) dX8_command_148 (by decide) ?_
    have hf := Option.some.inj hf
    subst hf
    exact g_zret (b := false) X hr dX8_command_149
  · have hf := opos c962 hf
    refine g_iconst X (1 : Int32) dX8_command_144 (by decide) ?_
    refine g_goto X 149 dX8_command_145 (by decide) ?_
    have hf := Option.some.inj hf
    subst hf
    exact g_zret (b := true) X hr dX8_command_149
def f_X8_command (v0 : MOv) (v3 : Fn) (p1 : Int32) (p2 : Int32) : Option (Bool × Fn) :=
  if p1 = (1 : Int32) then (f_X8_weighs v0 v3 (p2 / (100 : Int32)) (p2 - p2 / (100 : Int32) * (100 : Int32))).bind (fun q970 => some (q970.1, q970.2)) else if p1 = (2 : Int32) then (f_X8_isArms (p2 / (100 : Int32)) (p2 - p2 / (100 : Int32) * (100 : Int32))).bind (fun q966 => if (b2i q966) = 0 then some (false, v3) else (f_X8_armsOn v3 (p2 / (100 : Int32)) (p2 - p2 / (100 : Int32) * (100 : Int32))).bind (fun q967 => if q967.1 < 0 then some (false, q967.2) else some (true, q967.2))) else if p1 = (3 : Int32) then if (2 : Int32) ≤ (p2 - p2 / (100 : Int32) * (100 : Int32)) then some (false, v3) else (f_X8_isCoin v3 (p2 / (100 : Int32))).bind (fun q960 => if (b2i q960) = 0 then some (false, v3) else if (p2 - p2 / (100 : Int32) * (100 : Int32)) = (1 : Int32) then f_X8_command_b137 v0 v3 true (p2 / (100 : Int32)) else f_X8_command_b137 v0 v3 false (p2 / (100 : Int32))) else if p1 = (4 : Int32) then if (p2 - p2 / (1000 : Int32) * (1000 : Int32)) = 0 then if (3 : Int32) ≤ (p2 / (1000 : Int32)) then some (false, v3) else if ((v3 (1 : Int32).toNatClampNeg) - (v3 (1 : Int32).toNatClampNeg) / (3 : Int32) * (3 : Int32)) = (p2 / (1000 : Int32)) then f_X8_command_b186 v0 v3 true else f_X8_command_b186 v0 v3 false else some (false, v3) else if p1 = (5 : Int32) then if p2 = 0 then if (v3 (4 : Int32).toNatClampNeg) ≤ 0 then some (false, v3) else (f_X8_forgetOn v3).bind (fun q951 => if q951.1 < 0 then some (false, q951.2) else some (true, q951.2)) else some (false, v3) else if p1 = (6 : Int32) then if (100 : Int32) ≤ p2 then some (false, v3) else (f_X8_leftOf v3).bind (fun q948 => if p2 < q948 then some (false, v3) else some (true, v3)) else if p1 = (7 : Int32) then if (10 : Int32) ≤ (p2 - p2 / (100 : Int32) * (100 : Int32)) then some (false, v3) else (f_X8_isCoin v3 (p2 / (100 : Int32))).bind (fun q943 => if (b2i q943) = 0 then some (false, v3) else (f_X8_coinOf v3 (p2 / (100 : Int32))).bind (fun q944 => if q944 = (p2 - p2 / (100 : Int32) * (100 : Int32)) then some (true, v3) else some (false, v3))) else if p1 = (8 : Int32) then if (10 : Int32) ≤ p2 then some (false, v3) else (f_X8_pansOf v3).bind (fun q940 => if q940 = p2 then some (true, v3) else some (false, v3)) else if p1 = (9 : Int32) then if (10 : Int32) ≤ p2 then some (false, v3) else (f_X8_needsOf v3).bind (fun q937 => if p2 < q937 then some (false, v3) else some (true, v3)) else some (false, v3)
set_option maxRecDepth 100000 in
set_option maxHeartbeats 4000000 in
theorem c_X8_command (l : Launch) (D : va_G) (cy : Nat → ClassId) (ad : (Nat → Nat) × (Nat → Nat)) (h0 h1 h2 h3 h4 h5 h6 h7 h8 : Nat) (v0 : MOv) (v3 : Fn) (p1 : Int32) (p2 : Int32) {q : Bool × Fn} (hf : f_X8_command v0 v3 p1 p2 = some q) : CM l yX8_command cX8_command 6 (some .boolean) rmX8_command D cy ad [.ref h0, .int p1, .int p2] [MO h0 h1 h2 h3 h4 h5 h6 h7 h8 v0, AI cy 107 h3 v3] (some (.int (b2i q.1))) [MO h0 h1 h2 h3 h4 h5 h6 h7 h8 v0, AI cy 107 h3 q.2] := by
  refine cm_of (lv0 := [(0, .ref h0), (1, .int p1), (2, .int p2)]) (by decide) (Nat.le_of_ble_eq_true rfl) rfl ?_
  intro p e s m args below meth c A X hr hn
  have X : gK p s m args meth c A D cy ad cX8_command 6 RX8 := X
  unfold f_X8_command at hf
  refine g_iload_n X dX8_command_0 2 rfl rfl ?_
  refine g_bipush X (100 : Int32) dX8_command_1 (by decide) ?_
  refine g_idiv X dX8_command_3 (by decide) ?_
  refine g_istore_n (lv' := [(0, .ref h0), (1, .int p1), (2, .int p2), (3, .int (p2 / (100 : Int32)))]) X dX8_command_4 [1, 2, 3, 0] rfl (Nat.le_of_ble_eq_true rfl) rfl ?_
  refine g_iload_n X dX8_command_5 2 rfl rfl ?_
  refine g_bipush X (100 : Int32) dX8_command_6 (by decide) ?_
  refine g_irem X dX8_command_8 (by decide) ?_
  refine g_istore (lv' := [(0, .ref h0), (1, .int p1), (2, .int p2), (3, .int (p2 / (100 : Int32))), (4, .int (p2 - p2 / (100 : Int32) * (100 : Int32)))]) X dX8_command_9 [1, 2, 3, 4, 0] (Nat.le_of_ble_eq_true rfl) rfl ?_
  refine g_iload_n X dX8_command_11 2 rfl rfl ?_
  refine g_sipush X (1000 : Int32) dX8_command_12 (by decide) ?_
  refine g_idiv X dX8_command_15 (by decide) ?_
  refine g_istore (lv' := [(0, .ref h0), (1, .int p1), (2, .int p2), (3, .int (p2 / (100 : Int32))), (4, .int (p2 - p2 / (100 : Int32) * (100 : Int32))), (5, .int (p2 / (1000 : Int32)))]) X dX8_command_16 [1, 2, 3, 4, 5, 0] (Nat.le_of_ble_eq_true rfl) rfl ?_
  refine g_iload_n X dX8_command_18 1 rfl rfl ?_
  by_cases c928 : p1 = (1 : Int32)
  · have hf := opos c928 hf
    refine g_tableIn (off := 49) X 68 dX8_command_19 (by rw [c928]; decide) (by rw [c928]; decide) (by rw [c928]; decide) (by decide) ?_
    refine g_aload_n X dX8_command_68 0 rfl rfl ?_
    refine g_iload_n X dX8_command_69 3 rfl rfl ?_
    refine g_iload X dX8_command_70 4 rfl ?_
    obtain ⟨q970, hq970, hf⟩ := obind hf
    refine g_callV (gs' := [MO h0 h1 h2 h3 h4 h5 h6 h7 h8 v0, AI cy 107 h3 q970.2]) (rest := []) X dX8_command_72 (c_X8_weighs l D cy ad h0 h1 h2 h3 h4 h5 h6 h7 h8 v0 v3 (p2 / (100 : Int32)) (p2 - p2 / (100 : Int32) * (100 : Int32)) hq970) mf_X8_weighs mv_X8_weighs lkm_X8_202 ⟨(Nat.le_of_ble_eq_true rfl), (Nat.le_of_ble_eq_true rfl), (Nat.le_of_ble_eq_true rfl), (Nat.le_of_ble_eq_true rfl)⟩ 0 0 rfl rfl rfl rfl [0, 1] _ (by decide : [0, 1].Perm (List.range 2)) rfl (by decide : [0, 1].Perm (List.range 2)) rfl (Nat.le_of_ble_eq_true rfl) rfl ?_
    have hf := Option.some.inj hf
    subst hf
    exact g_zret (b := q970.1) X hr dX8_command_75
  · have hf := oneg c928 hf
    by_cases c929 : p1 = (2 : Int32)
    · have hf := opos c929 hf
      refine g_tableIn (off := 57) X 76 dX8_command_19 (by rw [c929]; decide) (by rw [c929]; decide) (by rw [c929]; decide) (by decide) ?_
      refine g_iload_n X dX8_command_76 3 rfl rfl ?_
      refine g_iload X dX8_command_77 4 rfl ?_
      obtain ⟨q966, hq966, hf⟩ := obind hf
      refine g_callS (gs' := [MO h0 h1 h2 h3 h4 h5 h6 h7 h8 v0, AI cy 107 h3 v3]) (rest := []) X dX8_command_79 (c_X8_isArms l D cy ad (p2 / (100 : Int32)) (p2 - p2 / (100 : Int32) * (100 : Int32)) hq966) mf_X8_isArms ms_X8_isArms lkm_X8_180 ⟨(Nat.le_of_ble_eq_true rfl), (Nat.le_of_ble_eq_true rfl), (Nat.le_of_ble_eq_true rfl), (Nat.le_of_ble_eq_true rfl)⟩ [0, 1] _ (by decide : [0, 1].Perm (List.range 2)) rfl (by decide : [0, 1].Perm (List.range 2)) rfl (Nat.le_of_ble_eq_true rfl) rfl ?_
      refine g_if_eq X 102 dX8_command_82 (by decide) (fun c969 => ?_) (fun c969 => ?_)
      · have hf := opos c969 hf
        refine g_iconst X (0 : Int32) dX8_command_102 (by decide) ?_
        have hf := Option.some.inj hf
        subst hf
        exact g_zret (b := false) X hr dX8_command_103
      · have hf := oneg c969 hf
        refine g_aload_n X dX8_command_85 0 rfl rfl ?_
        refine g_get X dX8_command_86 ck_X8 0 0 4 rfl rfl (Nat.le_of_ble_eq_true rfl) lkf_X8_16 rfl ?_
        refine g_iload_n X dX8_command_89 3 rfl rfl ?_
        refine g_iload X dX8_command_90 4 rfl ?_
        obtain ⟨q967, hq967, hf⟩ := obind hf
        refine g_callS (gs' := [MO h0 h1 h2 h3 h4 h5 h6 h7 h8 v0, AI cy 107 h3 q967.2]) (rest := []) X dX8_command_92 (c_X8_armsOn l D cy ad h3 v3 (p2 / (100 : Int32)) (p2 - p2 / (100 : Int32) * (100 : Int32)) hq967) mf_X8_armsOn ms_X8_armsOn lkm_X8_138 ⟨(Nat.le_of_ble_eq_true rfl), (Nat.le_of_ble_eq_true rfl), (Nat.le_of_ble_eq_true rfl), (Nat.le_of_ble_eq_true rfl)⟩ [1, 0] _ (by decide : [1, 0].Perm (List.range 2)) rfl (by decide : [1, 0].Perm (List.range 2)) rfl (Nat.le_of_ble_eq_true rfl) rfl ?_
        refine g_if_lt X 102 dX8_command_95 (by decide) (fun c968 => ?_) (fun c968 => ?_)
        · have hf := opos c968 hf
          refine g_iconst X (0 : Int32) dX8_command_102 (by decide) ?_
          have hf := Option.some.inj hf
          subst hf
          exact g_zret (b := false) X hr dX8_command_103
        · have hf := oneg c968 hf
          refine g_iconst X (1 : Int32) dX8_command_98 (by decide) ?_
          refine g_goto X 103 dX8_command_99 (by decide) ?_
          have hf := Option.some.inj hf
          subst hf
          exact g_zret (b := true) X hr dX8_command_103
    · have hf := oneg c929 hf
      by_cases c930 : p1 = (3 : Int32)
      · have hf := opos c930 hf
        refine g_tableIn (off := 85) X 104 dX8_command_19 (by rw [c930]; decide) (by rw [c930]; decide) (by rw [c930]; decide) (by decide) ?_
        refine g_iload X dX8_command_104 4 rfl ?_
        refine g_iconst X (2 : Int32) dX8_command_106 (by decide) ?_
        refine g_icmp_ge X 148 dX8_command_107 (by decide) (fun c965 => ?_) (fun c965 => ?_)
        · have hf := opos c965 hf
          refine g_iconst X (0 : Int32) dX8_command_148 (by decide) ?_
          have hf := Option.some.inj hf
          subst hf
          exact g_zret (b := false) X hr dX8_command_149
        · have hf := oneg c965 hf
          refine g_aload_n X dX8_command_110 0 rfl rfl ?_
          refine g_get X dX8_command_111 ck_X8 0 0 4 rfl rfl (Nat.le_of_ble_eq_true rfl) lkf_X8_16 rfl ?_
          refine g_iload_n X dX8_command_114 3 rfl rfl ?_
          obtain ⟨q960, hq960, hf⟩ := obind hf
          refine g_callS (gs' := [MO h0 h1 h2 h3 h4 h5 h6 h7 h8 v0, AI cy 107 h3 v3]) (rest := []) X dX8_command_115 (c_X8_isCoin l D cy ad h3 v3 (p2 / (100 : Int32)) hq960) mf_X8_isCoin ms_X8_isCoin lkm_X8_163 ⟨(Nat.le_of_ble_eq_true rfl), (Nat.le_of_ble_eq_true rfl), (Nat.le_of_ble_eq_true rfl), (Nat.le_of_ble_eq_true rfl)⟩ [1, 0] _ (by decide : [1, 0].Perm (List.range 2)) rfl (by decide : [1, 0].Perm (List.range 2)) rfl (Nat.le_of_ble_eq_true rfl) rfl ?_
          refine g_if_eq X 148 dX8_command_118 (by decide) (fun c964 => ?_) (fun c964 => ?_)
          · have hf := opos c964 hf
            refine g_iconst X (0 : Int32) dX8_command_148 (by decide) ?_
            have hf := Option.some.inj hf
            subst hf
            exact g_zret (b := false) X hr dX8_command_149
          · have hf := oneg c964 hf
            refine g_aload_n X dX8_command_121 0 rfl rfl ?_
            refine g_get X dX8_command_122 ck_X8 0 0 4 rfl rfl (Nat.le_of_ble_eq_true rfl) lkf_X8_16 rfl ?_
            refine g_iload_n X dX8_command_125 3 rfl rfl ?_
            refine g_iload X dX8_command_126 4 rfl ?_
            refine g_iconst X (1 : Int32) dX8_command_128 (by decide) ?_
            refine g_icmp_ne X 136 dX8_command_129 (by decide) (fun c963 => ?_) (fun c963 => ?_)
            · have hf := oneg c963 hf
              refine g_iconst X (0 : Int32) dX8_command_136 (by decide) ?_
              refine g_sub [] (lv' := []) rfl ?_
              exact j_X8_command_b137 X hr v0 v3 false (p2 / (100 : Int32)) hf
            · have hf := opos c963 hf
              refine g_iconst X (1 : Int32) dX8_command_132 (by decide) ?_
              refine g_goto X 137 dX8_command_133 (by decide) ?_
              refine g_sub [] (lv' := []) rfl ?_
              exact j_X8_command_b137 X hr v0 v3 true (p2 / (100 : Int32)) hf
      · have hf := oneg c930 hf
        by_cases c931 : p1 = (4 : Int32)
        · have hf := opos c931 hf
          refine g_tableIn (off := 131) X 150 dX8_command_19 (by rw [c931]; decide) (by rw [c931]; decide) (by rw [c931]; decide) (by decide) ?_
          refine g_iload_n X dX8_command_150 2 rfl rfl ?_
          refine g_sipush X (1000 : Int32) dX8_command_151 (by decide) ?_
          refine g_irem X dX8_command_154 (by decide) ?_
          refine g_if_ne X 197 dX8_command_155 (by decide) (fun c959 => ?_) (fun c959 => ?_)
          · have hf := oneg c959 hf
            refine g_iconst X (0 : Int32) dX8_command_197 (by decide) ?_
            have hf := Option.some.inj hf
            subst hf
            exact g_zret (b := false) X hr dX8_command_198
          · have hf := opos c959 hf
            refine g_iload X dX8_command_158 5 rfl ?_
            refine g_iconst X (3 : Int32) dX8_command_160 (by decide) ?_
            refine g_icmp_ge X 197 dX8_command_161 (by decide) (fun c958 => ?_) (fun c958 => ?_)
            · have hf := opos c958 hf
              refine g_iconst X (0 : Int32) dX8_command_197 (by decide) ?_
              have hf := Option.some.inj hf
              subst hf
              exact g_zret (b := false) X hr dX8_command_198
            · have hf := oneg c958 hf
              refine g_aload_n X dX8_command_164 0 rfl rfl ?_
              refine g_get X dX8_command_165 ck_X8 0 0 4 rfl rfl (Nat.le_of_ble_eq_true rfl) lkf_X8_16 rfl ?_
              refine g_aload_n X dX8_command_168 0 rfl rfl ?_
              refine g_get X dX8_command_169 ck_X8 0 0 4 rfl rfl (Nat.le_of_ble_eq_true rfl) lkf_X8_16 rfl ?_
              refine g_iconst X (1 : Int32) dX8_command_172 (by decide) ?_
              refine g_iaload X dX8_command_173 1 0 rfl rfl (by decide) ?_
              refine g_iconst X (3 : Int32) dX8_command_174 (by decide) ?_
              refine g_irem X dX8_command_175 (by decide) ?_
              refine g_iload X dX8_command_176 5 rfl ?_
              refine g_icmp_ne X 185 dX8_command_178 (by decide) (fun c957 => ?_) (fun c957 => ?_)
              · have hf := oneg c957 hf
                refine g_iconst X (0 : Int32) dX8_command_185 (by decide) ?_
                refine g_sub [] (lv' := []) rfl ?_
                exact j_X8_command_b186 X hr v0 v3 false hf
              · have hf := opos c957 hf
                refine g_iconst X (1 : Int32) dX8_command_181 (by decide) ?_
                refine g_goto X 186 dX8_command_182 (by decide) ?_
                refine g_sub [] (lv' := []) rfl ?_
                exact j_X8_command_b186 X hr v0 v3 true hf
        · have hf := oneg c931 hf
          by_cases c932 : p1 = (5 : Int32)
          · have hf := opos c932 hf
            refine g_tableIn (off := 180) X 199 dX8_command_19 (by rw [c932]; decide) (by rw [c932]; decide) (by rw [c932]; decide) (by decide) ?_
            refine g_iload_n X dX8_command_199 2 rfl rfl ?_
            refine g_if_ne X 226 dX8_command_200 (by decide) (fun c954 => ?_) (fun c954 => ?_)
            · have hf := oneg c954 hf
              refine g_iconst X (0 : Int32) dX8_command_226 (by decide) ?_
              have hf := Option.some.inj hf
              subst hf
              exact g_zret (b := false) X hr dX8_command_227
            · have hf := opos c954 hf
              refine g_aload_n X dX8_command_203 0 rfl rfl ?_
              refine g_get X dX8_command_204 ck_X8 0 0 4 rfl rfl (Nat.le_of_ble_eq_true rfl) lkf_X8_16 rfl ?_
              refine g_iconst X (4 : Int32) dX8_command_207 (by decide) ?_
              refine g_iaload X dX8_command_208 1 0 rfl rfl (by decide) ?_
              refine g_if_le X 226 dX8_command_209 (by decide) (fun c953 => ?_) (fun c953 => ?_)
              · have hf := opos c953 hf
                refine g_iconst X (0 : Int32) dX8_command_226 (by decide) ?_
                have hf := Option.some.inj hf
                subst hf
                exact g_zret (b := false) X hr dX8_command_227
              · have hf := oneg c953 hf
                refine g_aload_n X dX8_command_212 0 rfl rfl ?_
                refine g_get X dX8_command_213 ck_X8 0 0 4 rfl rfl (Nat.le_of_ble_eq_true rfl) lkf_X8_16 rfl ?_
                obtain ⟨q951, hq951, hf⟩ := obind hf
                refine g_callS (gs' := [MO h0 h1 h2 h3 h4 h5 h6 h7 h8 v0, AI cy 107 h3 q951.2]) (rest := []) X dX8_command_216 (c_X8_forgetOn l D cy ad h3 v3 hq951) mf_X8_forgetOn ms_X8_forgetOn lkm_X8_190 ⟨(Nat.le_of_ble_eq_true rfl), (Nat.le_of_ble_eq_true rfl), (Nat.le_of_ble_eq_true rfl), (Nat.le_of_ble_eq_true rfl)⟩ [1, 0] _ (by decide : [1, 0].Perm (List.range 2)) rfl (by decide : [1, 0].Perm (List.range 2)) rfl (Nat.le_of_ble_eq_true rfl) rfl ?_
                refine g_if_lt X 226 dX8_command_219 (by decide) (fun c952 => ?_) (fun c952 => ?_)
                · have hf := opos c952 hf
                  refine g_iconst X (0 : Int32) dX8_command_226 (by decide) ?_
                  have hf := Option.some.inj hf
                  subst hf
                  exact g_zret (b := false) X hr dX8_command_227
                · have hf := oneg c952 hf
                  refine g_iconst X (1 : Int32) dX8_command_222 (by decide) ?_
                  refine g_goto X 227 dX8_command_223 (by decide) ?_
                  have hf := Option.some.inj hf
                  subst hf
                  exact g_zret (b := true) X hr dX8_command_227
          · have hf := oneg c932 hf
            by_cases c933 : p1 = (6 : Int32)
            · have hf := opos c933 hf
              refine g_tableIn (off := 209) X 228 dX8_command_19 (by rw [c933]; decide) (by rw [c933]; decide) (by rw [c933]; decide) (by decide) ?_
              refine g_iload_n X dX8_command_228 2 rfl rfl ?_
              refine g_bipush X (100 : Int32) dX8_command_229 (by decide) ?_
              refine g_icmp_ge X 249 dX8_command_231 (by decide) (fun c950 => ?_) (fun c950 => ?_)
              · have hf := opos c950 hf
                refine g_iconst X (0 : Int32) dX8_command_249 (by decide) ?_
                have hf := Option.some.inj hf
                subst hf
                exact g_zret (b := false) X hr dX8_command_250
              · have hf := oneg c950 hf
                refine g_aload_n X dX8_command_234 0 rfl rfl ?_
                refine g_get X dX8_command_235 ck_X8 0 0 4 rfl rfl (Nat.le_of_ble_eq_true rfl) lkf_X8_16 rfl ?_
                obtain ⟨q948, hq948, hf⟩ := obind hf
                refine g_callS (gs' := [MO h0 h1 h2 h3 h4 h5 h6 h7 h8 v0, AI cy 107 h3 v3]) (rest := []) X dX8_command_238 (c_X8_leftOf l D cy ad h3 v3 hq948) mf_X8_leftOf ms_X8_leftOf lkm_X8_86 ⟨(Nat.le_of_ble_eq_true rfl), (Nat.le_of_ble_eq_true rfl), (Nat.le_of_ble_eq_true rfl), (Nat.le_of_ble_eq_true rfl)⟩ [1, 0] _ (by decide : [1, 0].Perm (List.range 2)) rfl (by decide : [1, 0].Perm (List.range 2)) rfl (Nat.le_of_ble_eq_true rfl) rfl ?_
                refine g_iload_n X dX8_command_241 2 rfl rfl ?_
                refine g_icmp_gt X 249 dX8_command_242 (by decide) (fun c949 => ?_) (fun c949 => ?_)
                · have hf := opos c949 hf
                  refine g_iconst X (0 : Int32) dX8_command_249 (by decide) ?_
                  have hf := Option.some.inj hf
                  subst hf
                  exact g_zret (b := false) X hr dX8_command_250
                · have hf := oneg c949 hf
                  refine g_iconst X (1 : Int32) dX8_command_245 (by decide) ?_
                  refine g_goto X 250 dX8_command_246 (by decide) ?_
                  have hf := Option.some.inj hf
                  subst hf
                  exact g_zret (b := true) X hr dX8_command_250
            · have hf := oneg c933 hf
              by_cases c934 : p1 = (7 : Int32)
              · have hf := opos c934 hf
                refine g_tableIn (off := 232) X 251 dX8_command_19 (by rw [c934]; decide) (by rw [c934]; decide) (by rw [c934]; decide) (by decide) ?_
                refine g_iload X dX8_command_251 4 rfl ?_
                refine g_bipush X (10 : Int32) dX8_command_253 (by decide) ?_
                refine g_icmp_ge X 286 dX8_command_255 (by decide) (fun c947 => ?_) (fun c947 => ?_)
                · have hf := opos c947 hf
                  refine g_iconst X (0 : Int32) dX8_command_286 (by decide) ?_
                  have hf := Option.some.inj hf
                  subst hf
                  exact g_zret (b := false) X hr dX8_command_287
                · have hf := oneg c947 hf
                  refine g_aload_n X dX8_command_258 0 rfl rfl ?_
                  refine g_get X dX8_command_259 ck_X8 0 0 4 rfl rfl (Nat.le_of_ble_eq_true rfl) lkf_X8_16 rfl ?_
                  refine g_iload_n X dX8_command_262 3 rfl rfl ?_
                  obtain ⟨q943, hq943, hf⟩ := obind hf
                  refine g_callS (gs' := [MO h0 h1 h2 h3 h4 h5 h6 h7 h8 v0, AI cy 107 h3 v3]) (rest := []) X dX8_command_263 (c_X8_isCoin l D cy ad h3 v3 (p2 / (100 : Int32)) hq943) mf_X8_isCoin ms_X8_isCoin lkm_X8_163 ⟨(Nat.le_of_ble_eq_true rfl), (Nat.le_of_ble_eq_true rfl), (Nat.le_of_ble_eq_true rfl), (Nat.le_of_ble_eq_true rfl)⟩ [1, 0] _ (by decide : [1, 0].Perm (List.range 2)) rfl (by decide : [1, 0].Perm (List.range 2)) rfl (Nat.le_of_ble_eq_true rfl) rfl ?_
                  refine g_if_eq X 286 dX8_command_266 (by decide) (fun c946 => ?_) (fun c946 => ?_)
                  · have hf := opos c946 hf
                    refine g_iconst X (0 : Int32) dX8_command_286 (by decide) ?_
                    have hf := Option.some.inj hf
                    subst hf
                    exact g_zret (b := false) X hr dX8_command_287
                  · have hf := oneg c946 hf
                    refine g_aload_n X dX8_command_269 0 rfl rfl ?_
                    refine g_get X dX8_command_270 ck_X8 0 0 4 rfl rfl (Nat.le_of_ble_eq_true rfl) lkf_X8_16 rfl ?_
                    refine g_iload_n X dX8_command_273 3 rfl rfl ?_
                    obtain ⟨q944, hq944, hf⟩ := obind hf
                    refine g_callS (gs' := [MO h0 h1 h2 h3 h4 h5 h6 h7 h8 v0, AI cy 107 h3 v3]) (rest := []) X dX8_command_274 (c_X8_coinOf l D cy ad h3 v3 (p2 / (100 : Int32)) hq944) mf_X8_coinOf ms_X8_coinOf lkm_X8_166 ⟨(Nat.le_of_ble_eq_true rfl), (Nat.le_of_ble_eq_true rfl), (Nat.le_of_ble_eq_true rfl), (Nat.le_of_ble_eq_true rfl)⟩ [1, 0] _ (by decide : [1, 0].Perm (List.range 2)) rfl (by decide : [1, 0].Perm (List.range 2)) rfl (Nat.le_of_ble_eq_true rfl) rfl ?_
                    refine g_iload X dX8_command_277 4 rfl ?_
                    refine g_icmp_ne X 286 dX8_command_279 (by decide) (fun c945 => ?_) (fun c945 => ?_)
                    · have hf := oneg c945 hf
                      refine g_iconst X (0 : Int32) dX8_command_286 (by decide) ?_
                      have hf := Option.some.inj hf
                      subst hf
                      exact g_zret (b := false) X hr dX8_command_287
                    · have hf := opos c945 hf
                      refine g_iconst X (1 : Int32) dX8_command_282 (by decide) ?_
                      refine g_goto X 287 dX8_command_283 (by decide) ?_
                      have hf := Option.some.inj hf
                      subst hf
                      exact g_zret (b := true) X hr dX8_command_287
              · have hf := oneg c934 hf
                by_cases c935 : p1 = (8 : Int32)
                · have hf := opos c935 hf
                  refine g_tableIn (off := 269) X 288 dX8_command_19 (by rw [c935]; decide) (by rw [c935]; decide) (by rw [c935]; decide) (by decide) ?_
                  refine g_iload_n X dX8_command_288 2 rfl rfl ?_
                  refine g_bipush X (10 : Int32) dX8_command_289 (by decide) ?_
                  refine g_icmp_ge X 309 dX8_command_291 (by decide) (fun c942 => ?_) (fun c942 => ?_)
                  · have hf := opos c942 hf
                    refine g_iconst X (0 : Int32) dX8_command_309 (by decide) ?_
                    have hf := Option.some.inj hf
                    subst hf
                    exact g_zret (b := false) X hr dX8_command_310
                  · have hf := oneg c942 hf
                    refine g_aload_n X dX8_command_294 0 rfl rfl ?_
                    refine g_get X dX8_command_295 ck_X8 0 0 4 rfl rfl (Nat.le_of_ble_eq_true rfl) lkf_X8_16 rfl ?_
                    obtain ⟨q940, hq940, hf⟩ := obind hf
                    refine g_callS (gs' := [MO h0 h1 h2 h3 h4 h5 h6 h7 h8 v0, AI cy 107 h3 v3]) (rest := []) X dX8_command_298 (c_X8_pansOf l D cy ad h3 v3 hq940) mf_X8_pansOf ms_X8_pansOf lkm_X8_169 ⟨(Nat.le_of_ble_eq_true rfl), (Nat.le_of_ble_eq_true rfl), (Nat.le_of_ble_eq_true rfl), (Nat.le_of_ble_eq_true rfl)⟩ [1, 0] _ (by decide : [1, 0].Perm (List.range 2)) rfl (by decide : [1, 0].Perm (List.range 2)) rfl (Nat.le_of_ble_eq_true rfl) rfl ?_
                    refine g_iload_n X dX8_command_301 2 rfl rfl ?_
                    refine g_icmp_ne X 309 dX8_command_302 (by decide) (fun c941 => ?_) (fun c941 => ?_)
                    · have hf := oneg c941 hf
                      refine g_iconst X (0 : Int32) dX8_command_309 (by decide) ?_
                      have hf := Option.some.inj hf
                      subst hf
                      exact g_zret (b := false) X hr dX8_command_310
                    · have hf := opos c941 hf
                      refine g_iconst X (1 : Int32) dX8_command_305 (by decide) ?_
                      refine g_goto X 310 dX8_command_306 (by decide) ?_
                      have hf := Option.some.inj hf
                      subst hf
                      exact g_zret (b := true) X hr dX8_command_310
                · have hf := oneg c935 hf
                  by_cases c936 : p1 = (9 : Int32)
                  · have hf := opos c936 hf
                    refine g_tableIn (off := 292) X 311 dX8_command_19 (by rw [c936]; decide) (by rw [c936]; decide) (by rw [c936]; decide) (by decide) ?_
                    refine g_iload_n X dX8_command_311 2 rfl rfl ?_
                    refine g_bipush X (10 : Int32) dX8_command_312 (by decide) ?_
                    refine g_icmp_ge X 332 dX8_command_314 (by decide) (fun c939 => ?_) (fun c939 => ?_)
                    · have hf := opos c939 hf
                      refine g_iconst X (0 : Int32) dX8_command_332 (by decide) ?_
                      have hf := Option.some.inj hf
                      subst hf
                      exact g_zret (b := false) X hr dX8_command_333
                    · have hf := oneg c939 hf
                      refine g_aload_n X dX8_command_317 0 rfl rfl ?_
                      refine g_get X dX8_command_318 ck_X8 0 0 4 rfl rfl (Nat.le_of_ble_eq_true rfl) lkf_X8_16 rfl ?_
                      obtain ⟨q937, hq937, hf⟩ := obind hf
                      refine g_callS (gs' := [MO h0 h1 h2 h3 h4 h5 h6 h7 h8 v0, AI cy 107 h3 v3]) (rest := []) X dX8_command_321 (c_X8_needsOf l D cy ad h3 v3 hq937) mf_X8_needsOf ms_X8_needsOf lkm_X8_199 ⟨(Nat.le_of_ble_eq_true rfl), (Nat.le_of_ble_eq_true rfl), (Nat.le_of_ble_eq_true rfl), (Nat.le_of_ble_eq_true rfl)⟩ [1, 0] _ (by decide : [1, 0].Perm (List.range 2)) rfl (by decide : [1, 0].Perm (List.range 2)) rfl (Nat.le_of_ble_eq_true rfl) rfl ?_
                      refine g_iload_n X dX8_command_324 2 rfl rfl ?_
                      refine g_icmp_gt X 332 dX8_command_325 (by decide) (fun c938 => ?_) (fun c938 => ?_)
                      · have hf := opos c938 hf
                        refine g_iconst X (0 : Int32) dX8_command_332 (by decide) ?_
                        have hf := Option.some.inj hf
                        subst hf
                        exact g_zret (b := false) X hr dX8_command_333
                      · have hf := oneg c938 hf
                        refine g_iconst X (1 : Int32) dX8_command_328 (by decide) ?_
                        refine g_goto X 333 dX8_command_329 (by decide) ?_
                        have hf := Option.some.inj hf
                        subst hf
                        exact g_zret (b := true) X hr dX8_command_333
                  · have hf := oneg c936 hf
                    refine g_tableOut X 334 dX8_command_19 (sw_out (fun k9 h91 h92 h93 => ?_)) (by decide) ?_
                    · have := sw_ne (by decide : ((1 : Int32)).toInt = 1) c928
                      have := sw_ne (by decide : ((2 : Int32)).toInt = 2) c929
                      have := sw_ne (by decide : ((3 : Int32)).toInt = 3) c930
                      have := sw_ne (by decide : ((4 : Int32)).toInt = 4) c931
                      have := sw_ne (by decide : ((5 : Int32)).toInt = 5) c932
                      have := sw_ne (by decide : ((6 : Int32)).toInt = 6) c933
                      have := sw_ne (by decide : ((7 : Int32)).toInt = 7) c934
                      have := sw_ne (by decide : ((8 : Int32)).toInt = 8) c935
                      have := sw_ne (by decide : ((9 : Int32)).toInt = 9) c936
                      omega
                    · refine g_iconst X (0 : Int32) dX8_command_334 (by decide) ?_
                      have hf := Option.some.inj hf
                      subst hf
                      exact g_zret (b := false) X hr dX8_command_335
abbrev rmX8_runScript : Room := ({ frames := 8, cells := 0, slots := 0, locals := 185 } : Room)
def f_X8_runScript_B6 (v0 : MOv) (v2 : Fn) (v3 : Fn) (x1 : Int32) (x2 : Int64) (z : Int64 × Int32) : Option ((Int64 × Int32) ⊕ ((Int64))) :=
  if x1 ≤ z.2 then some (.inr ((z.1))) else if (3 : Int32) ≤ z.2 then some (.inr ((z.1))) else some (.inl ((z.1 * (100000 : Int64)), (z.2 + (1 : Int32))))
set_option maxRecDepth 100000 in
set_option maxHeartbeats 4000000 in
theorem b_X8_runScript_B6 {p : Program} {l : Launch} {e : Env} {s : State} {m : MethodId} {args : Array Value} {below : List Frame} {meth : Method} {c : Code} {A : Nat → Prop} {D : va_G} {cy : Nat → ClassId} {ad : (Nat → Nat) × (Nat → Nat)} {Q : State → Prop} (X : gK p s m args meth c A D cy ad cX8_runScript 8 RX8) (hr : meth.sig.returnType = (some .int)) {h0 h1 h2 h3 h4 h5 h6 h7 h8 : Nat} (v0 : MOv) (v2 : Fn) (v3 : Fn) (x1 : Int32) (x2 : Int64) (z : Int64 × Int32) {q : (Int64 × Int32) ⊕ ((Int64))} (hf : f_X8_runScript_B6 v0 v2 v3 x1 x2 z = some q) (K1 : ∀ s' : Int64 × Int32, q = .inl s' → GW p l e rmX8_runScript s m args below meth c A D 8 0 0 Q 6 [(0, .ref h0), (1, .int x1), (2, .long x2), (4, .long s'.1), (6, .int s'.2)] [] [MO h0 h1 h2 h3 h4 h5 h6 h7 h8 v0, AI cy 107 h2 v2, AI cy 107 h3 v3]) (K2 : ∀ e' : Int64, q = .inr (e') → GW p l e rmX8_runScript s m args below meth c A D 8 0 0 Q 32 [(0, .ref h0), (1, .int x1), (2, .long x2), (4, .long e')] [] [MO h0 h1 h2 h3 h4 h5 h6 h7 h8 v0, AI cy 107 h2 v2, AI cy 107 h3 v3]) : GW p l e rmX8_runScript s m args below meth c A D 8 0 0 Q 6 [(0, .ref h0), (1, .int x1), (2, .long x2), (4, .long z.1), (6, .int z.2)] [] [MO h0 h1 h2 h3 h4 h5 h6 h7 h8 v0, AI cy 107 h2 v2, AI cy 107 h3 v3] := by
  unfold f_X8_runScript_B6 at hf
  refine g_iload X dX8_runScript_6 4 rfl ?_
  refine g_iload_n X dX8_runScript_8 1 rfl rfl ?_
  refine g_icmp_ge X 32 dX8_runScript_9 (by decide) (fun c984 => ?_) (fun c984 => ?_)
  · have hf := opos c984 hf
    refine g_sub [0, 1, 2, 3] (lv' := [(0, .ref h0), (1, .int x1), (2, .long x2), (4, .long z.1)]) rfl ?_
    exact K2 (z.1) (Option.some.inj hf).symm
  · have hf := oneg c984 hf
    refine g_iload X dX8_runScript_12 4 rfl ?_
    refine g_iconst X (3 : Int32) dX8_runScript_14 (by decide) ?_
    refine g_icmp_ge X 32 dX8_runScript_15 (by decide) (fun c983 => ?_) (fun c983 => ?_)
    · have hf := opos c983 hf
      refine g_sub [0, 1, 2, 3] (lv' := [(0, .ref h0), (1, .int x1), (2, .long x2), (4, .long z.1)]) rfl ?_
      exact K2 (z.1) (Option.some.inj hf).symm
    · have hf := oneg c983 hf
      refine g_lload X dX8_runScript_18 3 rfl ?_
      refine g_ldc2 X lkl_X8_205 dX8_runScript_20 ?_
      refine g_lmul X dX8_runScript_23 ?_
      refine g_lstore (lv' := [(0, .ref h0), (1, .int x1), (2, .long x2), (4, .long (z.1 * (100000 : Int64))), (6, .int z.2)]) X dX8_runScript_24 [1, 2, 3, 0, 4] (Nat.le_of_ble_eq_true rfl) rfl ?_
      refine g_iinc (lv' := [(0, .ref h0), (1, .int x1), (2, .long x2), (4, .long (z.1 * (100000 : Int64))), (6, .int (z.2 + (1 : Int32)))]) (v := (1 : Int32)) X dX8_runScript_26 4 rfl (by decide) [1, 2, 3, 4, 0] (Nat.le_of_ble_eq_true rfl) rfl ?_
      refine g_goto X 6 dX8_runScript_29 (by decide) ?_
      exact K1 ((z.1 * (100000 : Int64)), (z.2 + (1 : Int32))) (Option.some.inj hf).symm
set_option maxRecDepth 100000 in
set_option maxHeartbeats 4000000 in
theorem w_X8_runScript_B6 {p : Program} {l : Launch} {e : Env} {s : State} {m : MethodId} {args : Array Value} {below : List Frame} {meth : Method} {c : Code} {A : Nat → Prop} {D : va_G} {cy : Nat → ClassId} {ad : (Nat → Nat) × (Nat → Nat)} {Q : State → Prop} (X : gK p s m args meth c A D cy ad cX8_runScript 8 RX8) (hr : meth.sig.returnType = (some .int)) {h0 h1 h2 h3 h4 h5 h6 h7 h8 : Nat} (v0 : MOv) (v2 : Fn) (v3 : Fn) (x1 : Int32) (x2 : Int64) {n : Nat} {z : Int64 × Int32} {q : (Int64)} (hf : itl (f_X8_runScript_B6 v0 v2 v3 x1 x2) n z = some q) (K2 : GW p l e rmX8_runScript s m args below meth c A D 8 0 0 Q 32 [(0, .ref h0), (1, .int x1), (2, .long x2), (4, .long q)] [] [MO h0 h1 h2 h3 h4 h5 h6 h7 h8 v0, AI cy 107 h2 v2, AI cy 107 h3 v3]) : GW p l e rmX8_runScript s m args below meth c A D 8 0 0 Q 6 [(0, .ref h0), (1, .int x1), (2, .long x2), (4, .long z.1), (6, .int z.2)] [] [MO h0 h1 h2 h3 h4 h5 h6 h7 h8 v0, AI cy 107 h2 v2, AI cy 107 h3 v3] :=
  itl_ind (f := f_X8_runScript_B6 v0 v2 v3 x1 x2) (I := fun z => GW p l e rmX8_runScript s m args below meth c A D 8 0 0 Q 6 [(0, .ref h0), (1, .int x1), (2, .long x2), (4, .long z.1), (6, .int z.2)] [] [MO h0 h1 h2 h3 h4 h5 h6 h7 h8 v0, AI cy 107 h2 v2, AI cy 107 h3 v3]) (J := (fun q => GW p l e rmX8_runScript s m args below meth c A D 8 0 0 Q 32 [(0, .ref h0), (1, .int x1), (2, .long x2), (4, .long q)] [] [MO h0 h1 h2 h3 h4 h5 h6 h7 h8 v0, AI cy 107 h2 v2, AI cy 107 h3 v3])) (fun z x h k1 k2 => b_X8_runScript_B6 X hr v0 v2 v3 x1 x2 z h (fun s' hs => k1 s' hs) (fun e' he => k2 e' he)) n z q hf K2
def f_X8_runScript_B86_b111 (v0 : MOv) (v2 : Fn) (v3 : Fn) (x1 : Int32) (x2 : Int64) (x4 : Int64) (x6 : Int32) (x7 : Int32) : Option ((Int64 × Int32 × Fn) ⊕ ((Int32 × Fn) ⊕ (Fn))) :=
  (f_X8_command v0 v3 (x7 / (10000 : Int32)) (x7 - x7 / (10000 : Int32) * (10000 : Int32))).bind (fun q990 => if (b2i q990.1) = 0 then some (.inr (.inl (x6, q990.2))) else some (.inl (x4, (x6 + (1 : Int32)), q990.2)))
set_option maxRecDepth 100000 in
set_option maxHeartbeats 4000000 in
theorem j_X8_runScript_B86_b111 {p : Program} {l : Launch} {e : Env} {s : State} {m : MethodId} {args : Array Value} {below : List Frame} {meth : Method} {c : Code} {A : Nat → Prop} {D : va_G} {cy : Nat → ClassId} {ad : (Nat → Nat) × (Nat → Nat)} {Q : State → Prop} (X : gK p s m args meth c A D cy ad cX8_runScript 8 RX8) (hr : meth.sig.returnType = (some .int)) {h0 h1 h2 h3 h4 h5 h6 h7 h8 : Nat} (v0 : MOv) (v2 : Fn) (v3 : Fn) (x1 : Int32) (x2 : Int64) (x4 : Int64) (x6 : Int32) (x7 : Int32) {q : (Int64 × Int32 × Fn) ⊕ ((Int32 × Fn) ⊕ (Fn))} (hf : f_X8_runScript_B86_b111 v0 v2 v3 x1 x2 x4 x6 x7 = some q) (K1 : ∀ s' : Int64 × Int32 × Fn, q = .inl s' → GW p l e rmX8_runScript s m args below meth c A D 8 0 0 Q 86 [(0, .ref h0), (1, .int x1), (2, .long x2), (4, .long s'.1), (6, .int s'.2.1)] [] [MO h0 h1 h2 h3 h4 h5 h6 h7 h8 v0, AI cy 107 h2 v2, AI cy 107 h3 s'.2.2]) (K2 : ∀ e' : Int32 × Fn, q = .inr (.inl e') → GW p l e rmX8_runScript s m args below meth c A D 8 0 0 Q 130 [(6, .int e'.1)] [] [MO h0 h1 h2 h3 h4 h5 h6 h7 h8 v0, AI cy 107 h2 v2, AI cy 107 h3 e'.2]) (K3 : ∀ e' : Fn, q = .inr (.inr e') → GW p l e rmX8_runScript s m args below meth c A D 8 0 0 Q 139 [] [] [MO h0 h1 h2 h3 h4 h5 h6 h7 h8 v0, AI cy 107 h2 v2, AI cy 107 h3 e']) : GW p l e rmX8_runScript s m args below meth c A D 8 0 0 Q 111 [(0, .ref h0), (1, .int x1), (2, .long x2), (4, .long x4), (6, .int x6), (7, .int x7)] [] [MO h0 h1 h2 h3 h4 h5 h6 h7 h8 v0, AI cy 107 h2 v2, AI cy 107 h3 v3] := by
  unfold f_X8_runScript_B86_b111 at hf
  refine g_aload_n X dX8_runScript_111 0 rfl rfl ?_
  refine g_iload X dX8_runScript_112 5 rfl ?_
  refine g_sipush X (10000 : Int32) dX8_runScript_114 (by decide) ?_
  refine g_idiv X dX8_runScript_117 (by decide) ?_
  refine g_iload X dX8_runScript_118 5 rfl ?_
  refine g_sipush X (10000 : Int32) dX8_runScript_120 (by decide) ?_
  refine g_irem X dX8_runScript_123 (by decide) ?_
  obtain ⟨q990, hq990, hf⟩ := obind hf
  refine g_callV (gs' := [MO h0 h1 h2 h3 h4 h5 h6 h7 h8 v0, AI cy 107 h2 v2, AI cy 107 h3 q990.2]) (rest := []) X dX8_runScript_124 (c_X8_command l D cy ad h0 h1 h2 h3 h4 h5 h6 h7 h8 v0 v3 (x7 / (10000 : Int32)) (x7 - x7 / (10000 : Int32) * (10000 : Int32)) hq990) mf_X8_command mv_X8_command lkm_X8_207 ⟨(Nat.le_of_ble_eq_true rfl), (Nat.le_of_ble_eq_true rfl), (Nat.le_of_ble_eq_true rfl), (Nat.le_of_ble_eq_true rfl)⟩ 0 0 rfl rfl rfl rfl [0, 2, 1] _ (by decide : [0, 2, 1].Perm (List.range 3)) rfl (by decide : [0, 2, 1].Perm (List.range 3)) rfl (Nat.le_of_ble_eq_true rfl) rfl ?_
  refine g_if_ne X 133 dX8_runScript_127 (by decide) (fun c991 => ?_) (fun c991 => ?_)
  · have hf := oneg c991 hf
    refine g_iinc (lv' := [(0, .ref h0), (1, .int x1), (2, .long x2), (4, .long x4), (6, .int (x6 + (1 : Int32))), (7, .int x7)]) (v := (1 : Int32)) X dX8_runScript_133 4 rfl (by decide) [1, 2, 3, 4, 0, 5] (Nat.le_of_ble_eq_true rfl) rfl ?_
    refine g_goto X 86 dX8_runScript_136 (by decide) ?_
    refine g_sub [0, 1, 2, 3, 4] (lv' := [(0, .ref h0), (1, .int x1), (2, .long x2), (4, .long x4), (6, .int (x6 + (1 : Int32)))]) rfl ?_
    exact K1 (x4, (x6 + (1 : Int32)), q990.2) (Option.some.inj hf).symm
  · have hf := opos c991 hf
    refine g_sub [4] (lv' := [(6, .int x6)]) rfl ?_
    exact K2 (x6, q990.2) (Option.some.inj hf).symm
def f_X8_runScript_B86 (v0 : MOv) (v2 : Fn) (x1 : Int32) (x2 : Int64) (z : Int64 × Int32 × Fn) : Option ((Int64 × Int32 × Fn) ⊕ ((Int32 × Fn) ⊕ (Fn))) :=
  if x1 ≤ z.2.1 then some (.inr (.inr (z.2.2))) else if (z.1 / (100000 : Int64)) = 0 then none else f_X8_runScript_B86_b111 v0 v2 z.2.2 x1 x2 (z.1 / (100000 : Int64)) z.2.1 (((x2 / (z.1 / (100000 : Int64))) - (x2 / (z.1 / (100000 : Int64))) / (100000 : Int64) * (100000 : Int64)).toInt32)
set_option maxRecDepth 100000 in
set_option maxHeartbeats 4000000 in
theorem b_X8_runScript_B86 {p : Program} {l : Launch} {e : Env} {s : State} {m : MethodId} {args : Array Value} {below : List Frame} {meth : Method} {c : Code} {A : Nat → Prop} {D : va_G} {cy : Nat → ClassId} {ad : (Nat → Nat) × (Nat → Nat)} {Q : State → Prop} (X : gK p s m args meth c A D cy ad cX8_runScript 8 RX8) (hr : meth.sig.returnType = (some .int)) {h0 h1 h2 h3 h4 h5 h6 h7 h8 : Nat} (v0 : MOv) (v2 : Fn) (x1 : Int32) (x2 : Int64) (z : Int64 × Int32 × Fn) {q : (Int64 × Int32 × Fn) ⊕ ((Int32 × Fn) ⊕ (Fn))} (hf : f_X8_runScript_B86 v0 v2 x1 x2 z = some q) (K1 : ∀ s' : Int64 × Int32 × Fn, q = .inl s' → GW p l e rmX8_runScript s m args below meth c A D 8 0 0 Q 86 [(0, .ref h0), (1, .int x1), (2, .long x2), (4, .long s'.1), (6, .int s'.2.1)] [] [MO h0 h1 h2 h3 h4 h5 h6 h7 h8 v0, AI cy 107 h2 v2, AI cy 107 h3 s'.2.2]) (K2 : ∀ e' : Int32 × Fn, q = .inr (.inl e') → GW p l e rmX8_runScript s m args below meth c A D 8 0 0 Q 130 [(6, .int e'.1)] [] [MO h0 h1 h2 h3 h4 h5 h6 h7 h8 v0, AI cy 107 h2 v2, AI cy 107 h3 e'.2]) (K3 : ∀ e' : Fn, q = .inr (.inr e') → GW p l e rmX8_runScript s m args below meth c A D 8 0 0 Q 139 [] [] [MO h0 h1 h2 h3 h4 h5 h6 h7 h8 v0, AI cy 107 h2 v2, AI cy 107 h3 e']) : GW p l e rmX8_runScript s m args below meth c A D 8 0 0 Q 86 [(0, .ref h0), (1, .int x1), (2, .long x2), (4, .long z.1), (6, .int z.2.1)] [] [MO h0 h1 h2 h3 h4 h5 h6 h7 h8 v0, AI cy 107 h2 v2, AI cy 107 h3 z.2.2] := by
  unfold f_X8_runScript_B86 at hf
  refine g_iload X dX8_runScript_86 4 rfl ?_
  refine g_iload_n X dX8_runScript_88 1 rfl rfl ?_
  refine g_icmp_ge X 139 dX8_runScript_89 (by decide) (fun c992 => ?_) (fun c992 => ?_)
  · have hf := opos c992 hf
    refine g_sub [] (lv' := []) rfl ?_
    exact K3 (z.2.2) (Option.some.inj hf).symm
  · have hf := oneg c992 hf
    refine g_lload X dX8_runScript_92 3 rfl ?_
    refine g_ldc2 X lkl_X8_205 dX8_runScript_94 ?_
    refine g_ldiv X dX8_runScript_97 (by decide) ?_
    refine g_lstore (lv' := [(0, .ref h0), (1, .int x1), (2, .long x2), (4, .long (z.1 / (100000 : Int64))), (6, .int z.2.1)]) X dX8_runScript_98 [1, 2, 3, 0, 4] (Nat.le_of_ble_eq_true rfl) rfl ?_
    refine g_lload_n X dX8_runScript_100 2 rfl rfl ?_
    refine g_lload X dX8_runScript_101 3 rfl ?_
    obtain ⟨n989, hf⟩ := oguard hf
    refine g_ldiv X dX8_runScript_103 n989 ?_
    refine g_ldc2 X lkl_X8_205 dX8_runScript_104 ?_
    refine g_lrem X dX8_runScript_107 (by decide) ?_
    refine g_l2i X dX8_runScript_108 ?_
    refine g_istore (lv' := [(0, .ref h0), (1, .int x1), (2, .long x2), (4, .long (z.1 / (100000 : Int64))), (6, .int z.2.1), (7, .int (((x2 / (z.1 / (100000 : Int64))) - (x2 / (z.1 / (100000 : Int64))) / (100000 : Int64) * (100000 : Int64)).toInt32))]) X dX8_runScript_109 [1, 2, 3, 4, 5, 0] (Nat.le_of_ble_eq_true rfl) rfl ?_
    exact j_X8_runScript_B86_b111 X hr v0 v2 z.2.2 x1 x2 (z.1 / (100000 : Int64)) z.2.1 (((x2 / (z.1 / (100000 : Int64))) - (x2 / (z.1 / (100000 : Int64))) / (100000 : Int64) * (100000 : Int64)).toInt32) hf K1 K2 K3
set_option maxRecDepth 100000 in
set_option maxHeartbeats 4000000 in
theorem w_X8_runScript_B86 {p : Program} {l : Launch} {e : Env} {s : State} {m : MethodId} {args : Array Value} {below : List Frame} {meth : Method} {c : Code} {A : Nat → Prop} {D : va_G} {cy : Nat → ClassId} {ad : (Nat → Nat) × (Nat → Nat)} {Q : State → Prop} (X : gK p s m args meth c A D cy ad cX8_runScript 8 RX8) (hr : meth.sig.returnType = (some .int)) {h0 h1 h2 h3 h4 h5 h6 h7 h8 : Nat} (v0 : MOv) (v2 : Fn) (x1 : Int32) (x2 : Int64) {n : Nat} {z : Int64 × Int32 × Fn} {q : (Int32 × Fn) ⊕ (Fn)} (hf : itl (f_X8_runScript_B86 v0 v2 x1 x2) n z = some q) (K2 : ∀ e' : Int32 × Fn, q = .inl e' → GW p l e rmX8_runScript s m args below meth c A D 8 0 0 Q 130 [(6, .int e'.1)] [] [MO h0 h1 h2 h3 h4 h5 h6 h7 h8 v0, AI cy 107 h2 v2, AI cy 107 h3 e'.2]) (K3 : ∀ e' : Fn, q = .inr e' → GW p l e rmX8_runScript s m args below meth c A D 8 0 0 Q 139 [] [] [MO h0 h1 h2 h3 h4 h5 h6 h7 h8 v0, AI cy 107 h2 v2, AI cy 107 h3 e']) : GW p l e rmX8_runScript s m args below meth c A D 8 0 0 Q 86 [(0, .ref h0), (1, .int x1), (2, .long x2), (4, .long z.1), (6, .int z.2.1)] [] [MO h0 h1 h2 h3 h4 h5 h6 h7 h8 v0, AI cy 107 h2 v2, AI cy 107 h3 z.2.2] :=
  itl_ind (f := f_X8_runScript_B86 v0 v2 x1 x2) (I := fun z => GW p l e rmX8_runScript s m args below meth c A D 8 0 0 Q 86 [(0, .ref h0), (1, .int x1), (2, .long x2), (4, .long z.1), (6, .int z.2.1)] [] [MO h0 h1 h2 h3 h4 h5 h6 h7 h8 v0, AI cy 107 h2 v2, AI cy 107 h3 z.2.2]) (J := (fun q => (∀ e' : Int32 × Fn, q = .inl e' → GW p l e rmX8_runScript s m args below meth c A D 8 0 0 Q 130 [(6, .int e'.1)] [] [MO h0 h1 h2 h3 h4 h5 h6 h7 h8 v0, AI cy 107 h2 v2, AI cy 107 h3 e'.2]) ∧ (∀ e' : Fn, q = .inr e' → GW p l e rmX8_runScript s m args below meth c A D 8 0 0 Q 139 [] [] [MO h0 h1 h2 h3 h4 h5 h6 h7 h8 v0, AI cy 107 h2 v2, AI cy 107 h3 e']))) (fun z x h k1 k2 => b_X8_runScript_B86 X hr v0 v2 x1 x2 z h (fun s' hs => k1 s' hs) (fun e' he => (k2 _ he).1 e' rfl) (fun e' he => (k2 _ he).2 e' rfl)) n z q hf ⟨K2, K3⟩
def f_X8_runScript_b62 (v0 : MOv) (v2 : Fn) (v3 : Fn) (x1 : Int32) (x2 : Int64) (x4 : Int64) (y0 : Bool) : Option (Int32 × MOv × Fn) :=
  (f_X8_refused v0 (b2i y0)).bind (fun q987 => if (b2i q987.1) = 0 then (f_X8_copyState 107 107 v2 v3 (0 : Int32) (0 : Int32)).bind (fun q988 => (itl (f_X8_runScript_B86 q987.2 v2 x1 x2) FU (x4, (0 : Int32), q988)).bind (Sum.elim (fun q993e => some (q993e.1, q987.2, q993e.2)) (fun q993e => some ((-1 : Int32), q987.2, q993e)))) else some ((0 : Int32), q987.2, v3))
set_option maxRecDepth 100000 in
set_option maxHeartbeats 4000000 in
theorem j_X8_runScript_b62 {p : Program} {l : Launch} {e : Env} {s : State} {m : MethodId} {args : Array Value} {below : List Frame} {meth : Method} {c : Code} {A : Nat → Prop} {D : va_G} {cy : Nat → ClassId} {ad : (Nat → Nat) × (Nat → Nat)} (X : gK p s m args meth c A D cy ad cX8_runScript 8 RX8) (hr : meth.sig.returnType = (some .int)) {h0 h1 h2 h3 h4 h5 h6 h7 h8 : Nat} (v0 : MOv) (v2 : Fn) (v3 : Fn) (x1 : Int32) (x2 : Int64) (x4 : Int64) (y0 : Bool) {q : Int32 × MOv × Fn} (hf : f_X8_runScript_b62 v0 v2 v3 x1 x2 x4 y0 = some q) : GW p l e rmX8_runScript s m args below meth c A D 8 0 0 (MQ below (cmQ D cy A (some (.int q.1)) ([MO h0 h1 h2 h3 h4 h5 h6 h7 h8 q.2.1, AI cy 107 h2 v2, AI cy 107 h3 q.2.2] : List va_W).flatten) args s 0 0 A) 62 [(0, .ref h0), (1, .int x1), (2, .long x2), (4, .long x4)] [.int (b2i y0), .ref h0] [MO h0 h1 h2 h3 h4 h5 h6 h7 h8 v0, AI cy 107 h2 v2, AI cy 107 h3 v3] := by
  unfold f_X8_runScript_b62 at hf
  obtain ⟨q987, hq987, hf⟩ := obind hf
  refine g_callV (gs' := [MO h0 h1 h2 h3 h4 h5 h6 h7 h8 q987.2, AI cy 107 h2 v2, AI cy 107 h3 v3]) (rest := []) X dX8_runScript_62 (c_X8_refused l D cy ad h0 h1 h2 h3 h4 h5 h6 h7 h8 v0 (b2i y0) hq987) mf_X8_refused mv_X8_refused lkm_X8_102 ⟨(Nat.le_of_ble_eq_true rfl), (Nat.le_of_ble_eq_true rfl), (Nat.le_of_ble_eq_true rfl), (Nat.le_of_ble_eq_true rfl)⟩ 0 0 rfl rfl rfl rfl [0, 1, 2] _ (by decide : [0, 1, 2].Perm (List.range 3)) rfl (by decide : [0, 1, 2].Perm (List.range 3)) rfl (Nat.le_of_ble_eq_true rfl) rfl ?_
  refine g_if_eq X 70 dX8_runScript_65 (by decide) (fun c994 => ?_) (fun c994 => ?_)
  · have hf := opos c994 hf
    refine g_aload_n X dX8_runScript_70 0 rfl rfl ?_
    refine g_get X dX8_runScript_71 ck_X8 0 0 3 rfl rfl (Nat.le_of_ble_eq_true rfl) lkf_X8_13 rfl ?_
    refine g_iconst X (0 : Int32) dX8_runScript_74 (by decide) ?_
    refine g_aload_n X dX8_runScript_75 0 rfl rfl ?_
    refine g_get X dX8_runScript_76 ck_X8 0 0 4 rfl rfl (Nat.le_of_ble_eq_true rfl) lkf_X8_16 rfl ?_
    refine g_iconst X (0 : Int32) dX8_runScript_79 (by decide) ?_
    obtain ⟨q988, hq988, hf⟩ := obind hf
    refine g_callS (gs' := [MO h0 h1 h2 h3 h4 h5 h6 h7 h8 q987.2, AI cy 107 h2 v2, AI cy 107 h3 q988]) (rest := []) X dX8_runScript_80 (c_X8_copyState l D cy ad h2 h3 107 107 v2 v3 (0 : Int32) (0 : Int32) hq988) mf_X8_copyState ms_X8_copyState lkm_X8_154 ⟨(Nat.le_of_ble_eq_true rfl), (Nat.le_of_ble_eq_true rfl), (Nat.le_of_ble_eq_true rfl), (Nat.le_of_ble_eq_true rfl)⟩ [1, 2, 0] _ (by decide : [1, 2, 0].Perm (List.range 3)) rfl (by decide : [1, 2, 0].Perm (List.range 3)) rfl (Nat.le_of_ble_eq_true rfl) rfl ?_
    refine g_iconst X (0 : Int32) dX8_runScript_83 (by decide) ?_
    refine g_istore (lv' := [(0, .ref h0), (1, .int x1), (2, .long x2), (4, .long x4), (6, .int (0 : Int32))]) X dX8_runScript_84 [1, 2, 3, 4, 0] (Nat.le_of_ble_eq_true rfl) rfl ?_
    obtain ⟨q993, hq993, hf⟩ := obind hf
    refine w_X8_runScript_B86 X hr q987.2 v2 x1 x2 hq993 (fun q993e hq993e => ?_) (fun q993e hq993e => ?_)
    · subst hq993e
      have hf := sinl hf
      refine g_iload X dX8_runScript_130 0 rfl ?_
      have hf := Option.some.inj hf
      subst hf
      exact g_iret X hr dX8_runScript_132
    · subst hq993e
      have hf := sinr hf
      refine g_iconst X (-1 : Int32) dX8_runScript_139 (by decide) ?_
      have hf := Option.some.inj hf
      subst hf
      exact g_iret X hr dX8_runScript_140
  · have hf := oneg c994 hf
    refine g_iconst X (0 : Int32) dX8_runScript_68 (by decide) ?_
    have hf := Option.some.inj hf
    subst hf
    exact g_iret X hr dX8_runScript_69
def f_X8_runScript_b61 (v0 : MOv) (v2 : Fn) (v3 : Fn) (x1 : Int32) (x2 : Int64) (x4 : Int64) : Option (Int32 × MOv × Fn) :=
  f_X8_runScript_b62 v0 v2 v3 x1 x2 x4 true
set_option maxRecDepth 100000 in
set_option maxHeartbeats 4000000 in
theorem j_X8_runScript_b61 {p : Program} {l : Launch} {e : Env} {s : State} {m : MethodId} {args : Array Value} {below : List Frame} {meth : Method} {c : Code} {A : Nat → Prop} {D : va_G} {cy : Nat → ClassId} {ad : (Nat → Nat) × (Nat → Nat)} (X : gK p s m args meth c A D cy ad cX8_runScript 8 RX8) (hr : meth.sig.returnType = (some .int)) {h0 h1 h2 h3 h4 h5 h6 h7 h8 : Nat} (v0 : MOv) (v2 : Fn) (v3 : Fn) (x1 : Int32) (x2 : Int64) (x4 : Int64) {q : Int32 × MOv × Fn} (hf : f_X8_runScript_b61 v0 v2 v3 x1 x2 x4 = some q) : GW p l e rmX8_runScript s m args below meth c A D 8 0 0 (MQ below (cmQ D cy A (some (.int q.1)) ([MO h0 h1 h2 h3 h4 h5 h6 h7 h8 q.2.1, AI cy 107 h2 v2, AI cy 107 h3 q.2.2] : List va_W).flatten) args s 0 0 A) 61 [(0, .ref h0), (1, .int x1), (2, .long x2), (4, .long x4)] [.ref h0] [MO h0 h1 h2 h3 h4 h5 h6 h7 h8 v0, AI cy 107 h2 v2, AI cy 107 h3 v3] := by
  unfold f_X8_runScript_b61 at hf
  refine g_iconst X (1 : Int32) dX8_runScript_61 (by decide) ?_
  exact j_X8_runScript_b62 X hr v0 v2 v3 x1 x2 x4 true hf
def f_X8_runScript_b32 (v0 : MOv) (v2 : Fn) (v3 : Fn) (x1 : Int32) (x2 : Int64) (x4 : Int64) : Option (Int32 × MOv × Fn) :=
  (f_X8_in (x1.toInt64) (1 : Int64) (3 : Int64)).bind (fun q986 => if (b2i q986) = 0 then f_X8_runScript_b61 v0 v2 v3 x1 x2 x4 else (f_X8_in x2 (0 : Int64) (x4 - (1 : Int64))).bind (fun q995 => if (b2i q995) = 0 then f_X8_runScript_b61 v0 v2 v3 x1 x2 x4 else f_X8_runScript_b62 v0 v2 v3 x1 x2 x4 false))
set_option maxRecDepth 100000 in
set_option maxHeartbeats 4000000 in
theorem j_X8_runScript_b32 {p : Program} {l : Launch} {e : Env} {s : State} {m : MethodId} {args : Array Value} {below : List Frame} {meth : Method} {c : Code} {A : Nat → Prop} {D : va_G} {cy : Nat → ClassId} {ad : (Nat → Nat) × (Nat → Nat)} (X : gK p s m args meth c A D cy ad cX8_runScript 8 RX8) (hr : meth.sig.returnType = (some .int)) {h0 h1 h2 h3 h4 h5 h6 h7 h8 : Nat} (v0 : MOv) (v2 : Fn) (v3 : Fn) (x1 : Int32) (x2 : Int64) (x4 : Int64) {q : Int32 × MOv × Fn} (hf : f_X8_runScript_b32 v0 v2 v3 x1 x2 x4 = some q) : GW p l e rmX8_runScript s m args below meth c A D 8 0 0 (MQ below (cmQ D cy A (some (.int q.1)) ([MO h0 h1 h2 h3 h4 h5 h6 h7 h8 q.2.1, AI cy 107 h2 v2, AI cy 107 h3 q.2.2] : List va_W).flatten) args s 0 0 A) 32 [(0, .ref h0), (1, .int x1), (2, .long x2), (4, .long x4)] [] [MO h0 h1 h2 h3 h4 h5 h6 h7 h8 v0, AI cy 107 h2 v2, AI cy 107 h3 v3] := by
  unfold f_X8_runScript_b32 at hf
  refine g_aload_n X dX8_runScript_32 0 rfl rfl ?_
  refine g_iload_n X dX8_runScript_33 1 rfl rfl ?_
  refine g_i2l X dX8_runScript_34 ?_
  refine g_lconst X (1 : Int64) dX8_runScript_35 (by decide) ?_
  refine g_ldc2 X lkl_X8_47 dX8_runScript_36 ?_
  obtain ⟨q986, hq986, hf⟩ := obind hf
  refine g_callS (gs' := [MO h0 h1 h2 h3 h4 h5 h6 h7 h8 v0, AI cy 107 h2 v2, AI cy 107 h3 v3]) (rest := [.ref h0]) X dX8_runScript_39 (c_X8_in l D cy ad (x1.toInt64) (1 : Int64) (3 : Int64) hq986) mf_X8_in ms_X8_in lkm_X8_43 ⟨(Nat.le_of_ble_eq_true rfl), (Nat.le_of_ble_eq_true rfl), (Nat.le_of_ble_eq_true rfl), (Nat.le_of_ble_eq_true rfl)⟩ [0, 1, 2] _ (by decide : [0, 1, 2].Perm (List.range 3)) rfl (by decide : [0, 1, 2].Perm (List.range 3)) rfl (Nat.le_of_ble_eq_true rfl) rfl ?_
  refine g_if_eq X 61 dX8_runScript_42 (by decide) (fun c997 => ?_) (fun c997 => ?_)
  · have hf := opos c997 hf
    exact j_X8_runScript_b61 X hr v0 v2 v3 x1 x2 x4 hf
  · have hf := oneg c997 hf
    refine g_lload_n X dX8_runScript_45 2 rfl rfl ?_
    refine g_lconst X (0 : Int64) dX8_runScript_46 (by decide) ?_
    refine g_lload X dX8_runScript_47 3 rfl ?_
    refine g_lconst X (1 : Int64) dX8_runScript_49 (by decide) ?_
    refine g_lsub X dX8_runScript_50 ?_
    obtain ⟨q995, hq995, hf⟩ := obind hf
    refine g_callS (gs' := [MO h0 h1 h2 h3 h4 h5 h6 h7 h8 v0, AI cy 107 h2 v2, AI cy 107 h3 v3]) (rest := [.ref h0]) X dX8_runScript_51 (c_X8_in l D cy ad x2 (0 : Int64) (x4 - (1 : Int64)) hq995) mf_X8_in ms_X8_in lkm_X8_43 ⟨(Nat.le_of_ble_eq_true rfl), (Nat.le_of_ble_eq_true rfl), (Nat.le_of_ble_eq_true rfl), (Nat.le_of_ble_eq_true rfl)⟩ [0, 1, 2] _ (by decide : [0, 1, 2].Perm (List.range 3)) rfl (by decide : [0, 1, 2].Perm (List.range 3)) rfl (Nat.le_of_ble_eq_true rfl) rfl ?_
    refine g_if_eq X 61 dX8_runScript_54 (by decide) (fun c996 => ?_) (fun c996 => ?_)
    · have hf := opos c996 hf
      exact j_X8_runScript_b61 X hr v0 v2 v3 x1 x2 x4 hf
    · have hf := oneg c996 hf
      refine g_iconst X (0 : Int32) dX8_runScript_57 (by decide) ?_
      refine g_goto X 62 dX8_runScript_58 (by decide) ?_
      exact j_X8_runScript_b62 X hr v0 v2 v3 x1 x2 x4 false hf
def f_X8_runScript (v0 : MOv) (v2 : Fn) (v3 : Fn) (p1 : Int32) (p2 : Int64) : Option (Int32 × MOv × Fn) :=
  (itl (f_X8_runScript_B6 v0 v2 v3 p1 p2) FU ((1 : Int64), (0 : Int32))).bind (fun q985 => f_X8_runScript_b32 v0 v2 v3 p1 p2 q985)
set_option maxRecDepth 100000 in
set_option maxHeartbeats 4000000 in
theorem c_X8_runScript (l : Launch) (D : va_G) (cy : Nat → ClassId) (ad : (Nat → Nat) × (Nat → Nat)) (h0 h1 h2 h3 h4 h5 h6 h7 h8 : Nat) (v0 : MOv) (v2 : Fn) (v3 : Fn) (p1 : Int32) (p2 : Int64) {q : Int32 × MOv × Fn} (hf : f_X8_runScript v0 v2 v3 p1 p2 = some q) : CM l yX8_runScript cX8_runScript 8 (some .int) rmX8_runScript D cy ad [.ref h0, .int p1, .long p2] [MO h0 h1 h2 h3 h4 h5 h6 h7 h8 v0, AI cy 107 h2 v2, AI cy 107 h3 v3] (some (.int q.1)) [MO h0 h1 h2 h3 h4 h5 h6 h7 h8 q.2.1, AI cy 107 h2 v2, AI cy 107 h3 q.2.2] := by
  refine cm_of (lv0 := [(0, .ref h0), (1, .int p1), (2, .long p2)]) (by decide) (Nat.le_of_ble_eq_true rfl) rfl ?_
  intro p e s m args below meth c A X hr hn
  have X : gK p s m args meth c A D cy ad cX8_runScript 8 RX8 := X
  unfold f_X8_runScript at hf
  refine g_lconst X (1 : Int64) dX8_runScript_0 (by decide) ?_
  refine g_lstore (lv' := [(0, .ref h0), (1, .int p1), (2, .long p2), (4, .long (1 : Int64))]) X dX8_runScript_1 [1, 2, 3, 0] (Nat.le_of_ble_eq_true rfl) rfl ?_
  refine g_iconst X (0 : Int32) dX8_runScript_3 (by decide) ?_
  refine g_istore (lv' := [(0, .ref h0), (1, .int p1), (2, .long p2), (4, .long (1 : Int64)), (6, .int (0 : Int32))]) X dX8_runScript_4 [1, 2, 3, 4, 0] (Nat.le_of_ble_eq_true rfl) rfl ?_
  obtain ⟨q985, hq985, hf⟩ := obind hf
  refine w_X8_runScript_B6 X hr v0 v2 v3 p1 p2 hq985 ?_
  exact j_X8_runScript_b32 X hr v0 v2 v3 p1 p2 q985 hf
abbrev rmX8_turn : Room := ({ frames := 4, cells := 0, slots := 0, locals := 93 } : Room)
def f_X8_turn_b152 (w0 : Fn) (y0 : Bool) (y1 : Int32) : Option (Fn) :=
  (f_X8_accuseOn w0 y1 y0).bind (fun q1014 => some q1014.2)
set_option maxRecDepth 100000 in
set_option maxHeartbeats 4000000 in
theorem j_X8_turn_b152 {p : Program} {l : Launch} {e : Env} {s : State} {m : MethodId} {args : Array Value} {below : List Frame} {meth : Method} {c : Code} {A : Nat → Prop} {D : va_G} {cy : Nat → ClassId} {ad : (Nat → Nat) × (Nat → Nat)} (X : gK p s m args meth c A D cy ad cX8_turn 7 RX8) (hr : meth.sig.returnType = none) {g0 : Nat} (w0 : Fn) (y0 : Bool) (y1 : Int32) {q : Fn} (hf : f_X8_turn_b152 w0 y0 y1 = some q) : GW p l e rmX8_turn s m args below meth c A D 7 0 0 (MQ below (cmQ D cy A none ([AI cy 107 g0 q] : List va_W).flatten) args s 0 0 A) 152 [] [.int (b2i y0), .int y1, .ref g0] [AI cy 107 g0 w0] := by
  unfold f_X8_turn_b152 at hf
  obtain ⟨q1014, hq1014, hf⟩ := obind hf
  refine g_callS (gs' := [AI cy 107 g0 q1014.2]) (rest := []) X dX8_turn_152 (c_X8_accuseOn l D cy ad g0 w0 y1 y0 hq1014) mf_X8_accuseOn ms_X8_accuseOn lkm_X8_184 ⟨(Nat.le_of_ble_eq_true rfl), (Nat.le_of_ble_eq_true rfl), (Nat.le_of_ble_eq_true rfl), (Nat.le_of_ble_eq_true rfl)⟩ [0] _ (by decide : [0].Perm (List.range 1)) rfl (by decide : [0].Perm (List.range 1)) rfl (Nat.le_of_ble_eq_true rfl) rfl ?_
  refine g_pop X dX8_turn_155 rfl ?_
  refine g_goto X 179 dX8_turn_156 (by decide) ?_
  have hf := Option.some.inj hf
  subst hf
  exact g_vret X hr dX8_turn_179
def f_X8_turn_b90 (w0 : Fn) (y0 : Int32) (y1 : Int32) : Option (Fn) :=
  (f_X8_armsOn w0 y1 y0).bind (fun q1021 => some q1021.2)
set_option maxRecDepth 100000 in
set_option maxHeartbeats 4000000 in
theorem j_X8_turn_b90 {p : Program} {l : Launch} {e : Env} {s : State} {m : MethodId} {args : Array Value} {below : List Frame} {meth : Method} {c : Code} {A : Nat → Prop} {D : va_G} {cy : Nat → ClassId} {ad : (Nat → Nat) × (Nat → Nat)} (X : gK p s m args meth c A D cy ad cX8_turn 7 RX8) (hr : meth.sig.returnType = none) {g0 : Nat} (w0 : Fn) (y0 : Int32) (y1 : Int32) {q : Fn} (hf : f_X8_turn_b90 w0 y0 y1 = some q) : GW p l e rmX8_turn s m args below meth c A D 7 0 0 (MQ below (cmQ D cy A none ([AI cy 107 g0 q] : List va_W).flatten) args s 0 0 A) 90 [] [.int y0, .int y1, .ref g0] [AI cy 107 g0 w0] := by
  unfold f_X8_turn_b90 at hf
  obtain ⟨q1021, hq1021, hf⟩ := obind hf
  refine g_callS (gs' := [AI cy 107 g0 q1021.2]) (rest := []) X dX8_turn_90 (c_X8_armsOn l D cy ad g0 w0 y1 y0 hq1021) mf_X8_armsOn ms_X8_armsOn lkm_X8_138 ⟨(Nat.le_of_ble_eq_true rfl), (Nat.le_of_ble_eq_true rfl), (Nat.le_of_ble_eq_true rfl), (Nat.le_of_ble_eq_true rfl)⟩ [0] _ (by decide : [0].Perm (List.range 1)) rfl (by decide : [0].Perm (List.range 1)) rfl (Nat.le_of_ble_eq_true rfl) rfl ?_
  refine g_pop X dX8_turn_93 rfl ?_
  refine g_goto X 179 dX8_turn_94 (by decide) ?_
  have hf := Option.some.inj hf
  subst hf
  exact g_vret X hr dX8_turn_179
def f_X8_turn_b70 (w0 : Fn) (x2 : Int32) (y0 : Int32) : Option (Fn) :=
  if (x2 - x2 / (3 : Int32) * (3 : Int32)) = 0 then f_X8_turn_b90 w0 ((1 : Int32) + ((x2 / (32 : Int32)) - (x2 / (32 : Int32)) / (20 : Int32) * (20 : Int32))) y0 else f_X8_turn_b90 w0 (10 : Int32) y0
set_option maxRecDepth 100000 in
set_option maxHeartbeats 4000000 in
theorem j_X8_turn_b70 {p : Program} {l : Launch} {e : Env} {s : State} {m : MethodId} {args : Array Value} {below : List Frame} {meth : Method} {c : Code} {A : Nat → Prop} {D : va_G} {cy : Nat → ClassId} {ad : (Nat → Nat) × (Nat → Nat)} (X : gK p s m args meth c A D cy ad cX8_turn 7 RX8) (hr : meth.sig.returnType = none) {g0 : Nat} (w0 : Fn) (x2 : Int32) (y0 : Int32) {q : Fn} (hf : f_X8_turn_b70 w0 x2 y0 = some q) : GW p l e rmX8_turn s m args below meth c A D 7 0 0 (MQ below (cmQ D cy A none ([AI cy 107 g0 q] : List va_W).flatten) args s 0 0 A) 70 [(2, .int x2)] [.int y0, .ref g0] [AI cy 107 g0 w0] := by
  unfold f_X8_turn_b70 at hf
  refine g_iload_n X dX8_turn_70 0 rfl rfl ?_
  refine g_iconst X (3 : Int32) dX8_turn_71 (by decide) ?_
  refine g_irem X dX8_turn_72 (by decide) ?_
  refine g_if_ne X 88 dX8_turn_73 (by decide) (fun c1022 => ?_) (fun c1022 => ?_)
  · have hf := oneg c1022 hf
    refine g_bipush X (10 : Int32) dX8_turn_88 (by decide) ?_
    refine g_sub [] (lv' := []) rfl ?_
    exact j_X8_turn_b90 X hr w0 (10 : Int32) y0 hf
  · have hf := opos c1022 hf
    refine g_iconst X (1 : Int32) dX8_turn_76 (by decide) ?_
    refine g_iload_n X dX8_turn_77 0 rfl rfl ?_
    refine g_bipush X (32 : Int32) dX8_turn_78 (by decide) ?_
    refine g_idiv X dX8_turn_80 (by decide) ?_
    refine g_bipush X (20 : Int32) dX8_turn_81 (by decide) ?_
    refine g_irem X dX8_turn_83 (by decide) ?_
    refine g_iadd X dX8_turn_84 ?_
    refine g_goto X 90 dX8_turn_85 (by decide) ?_
    refine g_sub [] (lv' := []) rfl ?_
    exact j_X8_turn_b90 X hr w0 ((1 : Int32) + ((x2 / (32 : Int32)) - (x2 / (32 : Int32)) / (20 : Int32) * (20 : Int32))) y0 hf
def f_X8_turn_b48 (w0 : Fn) (x2 : Int32) (x3 : Int32) (x5 : Int32) (x6 : Int32) : Option (Fn) :=
  if x3 = 0 then if (x2 - x2 / (3 : Int32) * (3 : Int32)) = 0 then f_X8_turn_b70 w0 x2 ((1 : Int32) + (x2 - x2 / (20 : Int32) * (20 : Int32))) else f_X8_turn_b70 w0 x2 (10 : Int32) else if x3 = (1 : Int32) then if (w0 (4 : Int32).toNatClampNeg) ≤ 0 then some w0 else (f_X8_forgetOn w0).bind (fun q1018 => some q1018.2) else if x3 = (2 : Int32) then (f_X8_isCoin w0 (x2 - x2 / (12 : Int32) * (12 : Int32))).bind (fun q1013 => if (b2i q1013) = 0 then some w0 else if ((x2 / (16 : Int32)) - (x2 / (16 : Int32)) / (2 : Int32) * (2 : Int32)) = (1 : Int32) then f_X8_turn_b152 w0 true (x2 - x2 / (12 : Int32) * (12 : Int32)) else f_X8_turn_b152 w0 false (x2 - x2 / (12 : Int32) * (12 : Int32))) else (f_X8_canWeigh w0 x5 x6).bind (fun q1010 => if (b2i q1010) = 0 then some w0 else (f_X8_weighOn w0 x5 x6).bind (fun q1011 => some q1011.2))
set_option maxRecDepth 100000 in
set_option maxHeartbeats 4000000 in
theorem j_X8_turn_b48 {p : Program} {l : Launch} {e : Env} {s : State} {m : MethodId} {args : Array Value} {below : List Frame} {meth : Method} {c : Code} {A : Nat → Prop} {D : va_G} {cy : Nat → ClassId} {ad : (Nat → Nat) × (Nat → Nat)} (X : gK p s m args meth c A D cy ad cX8_turn 7 RX8) (hr : meth.sig.returnType = none) {g0 : Nat} (w0 : Fn) (x2 : Int32) (x3 : Int32) (x5 : Int32) (x6 : Int32) {q : Fn} (hf : f_X8_turn_b48 w0 x2 x3 x5 x6 = some q) : GW p l e rmX8_turn s m args below meth c A D 7 0 0 (MQ below (cmQ D cy A none ([AI cy 107 g0 q] : List va_W).flatten) args s 0 0 A) 48 [(0, .ref g0), (2, .int x2), (3, .int x3), (5, .int x5), (6, .int x6)] [] [AI cy 107 g0 w0] := by
  unfold f_X8_turn_b48 at hf
  refine g_iload_n X dX8_turn_48 2 rfl rfl ?_
  refine g_if_ne X 97 dX8_turn_49 (by decide) (fun c1024 => ?_) (fun c1024 => ?_)
  · have hf := oneg c1024 hf
    refine g_iload_n X dX8_turn_97 2 rfl rfl ?_
    refine g_iconst X (1 : Int32) dX8_turn_98 (by decide) ?_
    refine g_icmp_ne X 116 dX8_turn_99 (by decide) (fun c1020 => ?_) (fun c1020 => ?_)
    · have hf := oneg c1020 hf
      refine g_iload_n X dX8_turn_116 2 rfl rfl ?_
      refine g_iconst X (2 : Int32) dX8_turn_117 (by decide) ?_
      refine g_icmp_ne X 159 dX8_turn_118 (by decide) (fun c1017 => ?_) (fun c1017 => ?_)
      · have hf := oneg c1017 hf
        refine g_aload_n X dX8_turn_159 0 rfl rfl ?_
        refine g_iload X dX8_turn_160 3 rfl ?_
        refine g_iload X dX8_turn_162 4 rfl ?_
        obtain ⟨q1010, hq1010, hf⟩ := obind hf
        refine g_callS (gs' := [AI cy 107 g0 w0]) (rest := []) X dX8_turn_164 (c_X8_canWeigh l D cy ad g0 w0 x5 x6 hq1010) mf_X8_canWeigh ms_X8_canWeigh lkm_X8_123 ⟨(Nat.le_of_ble_eq_true rfl), (Nat.le_of_ble_eq_true rfl), (Nat.le_of_ble_eq_true rfl), (Nat.le_of_ble_eq_true rfl)⟩ [0] _ (by decide : [0].Perm (List.range 1)) rfl (by decide : [0].Perm (List.range 1)) rfl (Nat.le_of_ble_eq_true rfl) rfl ?_
        refine g_if_eq X 179 dX8_turn_167 (by decide) (fun c1012 => ?_) (fun c1012 => ?_)
        · have hf := opos c1012 hf
          have hf := Option.some.inj hf
          subst hf
          exact g_vret X hr dX8_turn_179
        · have hf := oneg c1012 hf
          refine g_aload_n X dX8_turn_170 0 rfl rfl ?_
          refine g_iload X dX8_turn_171 3 rfl ?_
          refine g_iload X dX8_turn_173 4 rfl ?_
          obtain ⟨q1011, hq1011, hf⟩ := obind hf
          refine g_callS (gs' := [AI cy 107 g0 q1011.2]) (rest := []) X dX8_turn_175 (c_X8_weighOn l D cy ad g0 w0 x5 x6 hq1011) mf_X8_weighOn ms_X8_weighOn lkm_X8_126 ⟨(Nat.le_of_ble_eq_true rfl), (Nat.le_of_ble_eq_true rfl), (Nat.le_of_ble_eq_true rfl), (Nat.le_of_ble_eq_true rfl)⟩ [0] _ (by decide : [0].Perm (List.range 1)) rfl (by decide : [0].Perm (List.range 1)) rfl (Nat.le_of_ble_eq_true rfl) rfl ?_
          refine g_pop X dX8_turn_178 rfl ?_
          have hf := Option.some.inj hf
          subst hf
          exact g_vret X hr dX8_turn_179
      · have hf := opos c1017 hf
        refine g_aload_n X dX8_turn_121 0 rfl rfl ?_
        refine g_iload_n X dX8_turn_122 1 rfl rfl ?_
        refine g_bipush X (12 : Int32) dX8_turn_123 (by decide) ?_
        refine g_irem X dX8_turn_125 (by decide) ?_
        obtain ⟨q1013, hq1013, hf⟩ := obind hf
        refine g_callS (gs' := [AI cy 107 g0 w0]) (rest := []) X dX8_turn_126 (c_X8_isCoin l D cy ad g0 w0 (x2 - x2 / (12 : Int32) * (12 : Int32)) hq1013) mf_X8_isCoin ms_X8_isCoin lkm_X8_163 ⟨(Nat.le_of_ble_eq_true rfl), (Nat.le_of_ble_eq_true rfl), (Nat.le_of_ble_eq_true rfl), (Nat.le_of_ble_eq_true rfl)⟩ [0] _ (by decide : [0].Perm (List.range 1)) rfl (by decide : [0].Perm (List.range 1)) rfl (Nat.le_of_ble_eq_true rfl) rfl ?_
        refine g_if_eq X 179 dX8_turn_129 (by decide) (fun c1016 => ?_) (fun c1016 => ?_)
        · have hf := opos c1016 hf
          have hf := Option.some.inj hf
          subst hf
          exact g_vret X hr dX8_turn_179
        · have hf := oneg c1016 hf
          refine g_aload_n X dX8_turn_132 0 rfl rfl ?_
          refine g_iload_n X dX8_turn_133 1 rfl rfl ?_
          refine g_bipush X (12 : Int32) dX8_turn_134 (by decide) ?_
          refine g_irem X dX8_turn_136 (by decide) ?_
          refine g_iload_n X dX8_turn_137 1 rfl rfl ?_
          refine g_bipush X (16 : Int32) dX8_turn_138 (by decide) ?_
          refine g_idiv X dX8_turn_140 (by decide) ?_
          refine g_iconst X (2 : Int32) dX8_turn_141 (by decide) ?_
          refine g_irem X dX8_turn_142 (by decide) ?_
          refine g_iconst X (1 : Int32) dX8_turn_143 (by decide) ?_
          refine g_icmp_ne X 151 dX8_turn_144 (by decide) (fun c1015 => ?_) (fun c1015 => ?_)
          · have hf := oneg c1015 hf
            refine g_iconst X (0 : Int32) dX8_turn_151 (by decide) ?_
            refine g_sub [] (lv' := []) rfl ?_
            exact j_X8_turn_b152 X hr w0 false (x2 - x2 / (12 : Int32) * (12 : Int32)) hf
          · have hf := opos c1015 hf
            refine g_iconst X (1 : Int32) dX8_turn_147 (by decide) ?_
            refine g_goto X 152 dX8_turn_148 (by decide) ?_
            refine g_sub [] (lv' := []) rfl ?_
            exact j_X8_turn_b152 X hr w0 true (x2 - x2 / (12 : Int32) * (12 : Int32)) hf
    · have hf := opos c1020 hf
      refine g_aload_n X dX8_turn_102 0 rfl rfl ?_
      refine g_iconst X (4 : Int32) dX8_turn_103 (by decide) ?_
      refine g_iaload X dX8_turn_104 0 0 rfl rfl (by decide) ?_
      refine g_if_le X 179 dX8_turn_105 (by decide) (fun c1019 => ?_) (fun c1019 => ?_)
      · have hf := opos c1019 hf
        have hf := Option.some.inj hf
        subst hf
        exact g_vret X hr dX8_turn_179
      · have hf := oneg c1019 hf
        refine g_aload_n X dX8_turn_108 0 rfl rfl ?_
        obtain ⟨q1018, hq1018, hf⟩ := obind hf
        refine g_callS (gs' := [AI cy 107 g0 q1018.2]) (rest := []) X dX8_turn_109 (c_X8_forgetOn l D cy ad g0 w0 hq1018) mf_X8_forgetOn ms_X8_forgetOn lkm_X8_190 ⟨(Nat.le_of_ble_eq_true rfl), (Nat.le_of_ble_eq_true rfl), (Nat.le_of_ble_eq_true rfl), (Nat.le_of_ble_eq_true rfl)⟩ [0] _ (by decide : [0].Perm (List.range 1)) rfl (by decide : [0].Perm (List.range 1)) rfl (Nat.le_of_ble_eq_true rfl) rfl ?_
        refine g_pop X dX8_turn_112 rfl ?_
        refine g_goto X 179 dX8_turn_113 (by decide) ?_
        have hf := Option.some.inj hf
        subst hf
        exact g_vret X hr dX8_turn_179
  · have hf := opos c1024 hf
    refine g_aload_n X dX8_turn_52 0 rfl rfl ?_
    refine g_iload_n X dX8_turn_53 1 rfl rfl ?_
    refine g_iconst X (3 : Int32) dX8_turn_54 (by decide) ?_
    refine g_irem X dX8_turn_55 (by decide) ?_
    refine g_if_ne X 68 dX8_turn_56 (by decide) (fun c1023 => ?_) (fun c1023 => ?_)
    · have hf := oneg c1023 hf
      refine g_bipush X (10 : Int32) dX8_turn_68 (by decide) ?_
      refine g_sub [1] (lv' := [(2, .int x2)]) rfl ?_
      exact j_X8_turn_b70 X hr w0 x2 (10 : Int32) hf
    · have hf := opos c1023 hf
      refine g_iconst X (1 : Int32) dX8_turn_59 (by decide) ?_
      refine g_iload_n X dX8_turn_60 1 rfl rfl ?_
      refine g_bipush X (20 : Int32) dX8_turn_61 (by decide) ?_
      refine g_irem X dX8_turn_63 (by decide) ?_
      refine g_iadd X dX8_turn_64 ?_
      refine g_goto X 70 dX8_turn_65 (by decide) ?_
      refine g_sub [1] (lv' := [(2, .int x2)]) rfl ?_
      exact j_X8_turn_b70 X hr w0 x2 ((1 : Int32) + (x2 - x2 / (20 : Int32) * (20 : Int32))) hf
def f_X8_turn_b29 (w0 : Fn) (x2 : Int32) (x3 : Int32) (x4 : Int32) (x5 : Int32) : Option (Fn) :=
  f_X8_turn_b48 w0 x2 x3 x5 ((((x2 / (4096 : Int32)) - (x2 / (4096 : Int32)) / (4096 : Int32) * (4096 : Int32)) &&& x4) &&& (x5 ^^^ (-1 : Int32)))
set_option maxRecDepth 100000 in
set_option maxHeartbeats 4000000 in
theorem j_X8_turn_b29 {p : Program} {l : Launch} {e : Env} {s : State} {m : MethodId} {args : Array Value} {below : List Frame} {meth : Method} {c : Code} {A : Nat → Prop} {D : va_G} {cy : Nat → ClassId} {ad : (Nat → Nat) × (Nat → Nat)} (X : gK p s m args meth c A D cy ad cX8_turn 7 RX8) (hr : meth.sig.returnType = none) {g0 : Nat} (w0 : Fn) (x2 : Int32) (x3 : Int32) (x4 : Int32) (x5 : Int32) {q : Fn} (hf : f_X8_turn_b29 w0 x2 x3 x4 x5 = some q) : GW p l e rmX8_turn s m args below meth c A D 7 0 0 (MQ below (cmQ D cy A none ([AI cy 107 g0 q] : List va_W).flatten) args s 0 0 A) 29 [(0, .ref g0), (2, .int x2), (3, .int x3), (4, .int x4), (5, .int x5)] [] [AI cy 107 g0 w0] := by
  unfold f_X8_turn_b29 at hf
  refine g_iload_n X dX8_turn_29 1 rfl rfl ?_
  refine g_sipush X (4096 : Int32) dX8_turn_30 (by decide) ?_
  refine g_idiv X dX8_turn_33 (by decide) ?_
  refine g_sipush X (4096 : Int32) dX8_turn_34 (by decide) ?_
  refine g_irem X dX8_turn_37 (by decide) ?_
  refine g_iload X dX8_turn_38 3 rfl ?_
  refine g_iand X dX8_turn_40 ?_
  refine g_iload X dX8_turn_41 4 rfl ?_
  refine g_iconst X (-1 : Int32) dX8_turn_43 (by decide) ?_
  refine g_ixor X dX8_turn_44 ?_
  refine g_iand X dX8_turn_45 ?_
  refine g_istore (lv' := [(0, .ref g0), (2, .int x2), (3, .int x3), (4, .int x4), (5, .int x5), (6, .int ((((x2 / (4096 : Int32)) - (x2 / (4096 : Int32)) / (4096 : Int32) * (4096 : Int32)) &&& x4) &&& (x5 ^^^ (-1 : Int32))))]) X dX8_turn_46 [1, 2, 3, 4, 5, 0] (Nat.le_of_ble_eq_true rfl) rfl ?_
  refine g_sub [0, 1, 2, 4, 5] (lv' := [(0, .ref g0), (2, .int x2), (3, .int x3), (5, .int x5), (6, .int ((((x2 / (4096 : Int32)) - (x2 / (4096 : Int32)) / (4096 : Int32) * (4096 : Int32)) &&& x4) &&& (x5 ^^^ (-1 : Int32))))]) rfl ?_
  exact j_X8_turn_b48 X hr w0 x2 x3 x5 ((((x2 / (4096 : Int32)) - (x2 / (4096 : Int32)) / (4096 : Int32) * (4096 : Int32)) &&& x4) &&& (x5 ^^^ (-1 : Int32))) hf
def f_X8_turn (w0 : Fn) (p1 : Int32) : Option (Fn) :=
  f_X8_turn_b29 w0 (p1 / (8 : Int32)) (p1 - p1 / (8 : Int32) * (8 : Int32)) (((1 : Int32) <<< ((w0 (0 : Int32).toNatClampNeg) &&& 31)) - (1 : Int32)) (((p1 / (8 : Int32)) - (p1 / (8 : Int32)) / (4096 : Int32) * (4096 : Int32)) &&& (((1 : Int32) <<< ((w0 (0 : Int32).toNatClampNeg) &&& 31)) - (1 : Int32)))
set_option maxRecDepth 100000 in
set_option maxHeartbeats 4000000 in
theorem c_X8_turn (l : Launch) (D : va_G) (cy : Nat → ClassId) (ad : (Nat → Nat) × (Nat → Nat)) (g0 : Nat) (w0 : Fn) (p1 : Int32) {q : Fn} (hf : f_X8_turn w0 p1 = some q) : CM l yX8_turn cX8_turn 7 none rmX8_turn D cy ad [.ref g0, .int p1] [AI cy 107 g0 w0] none [AI cy 107 g0 q] := by
  refine cm_of (lv0 := [(0, .ref g0), (1, .int p1)]) (by decide) (Nat.le_of_ble_eq_true rfl) rfl ?_
  intro p e s m args below meth c A X hr hn
  have X : gK p s m args meth c A D cy ad cX8_turn 7 RX8 := X
  unfold f_X8_turn at hf
  refine g_iload_n X dX8_turn_0 1 rfl rfl ?_
  refine g_bipush X (8 : Int32) dX8_turn_1 (by decide) ?_
  refine g_idiv X dX8_turn_3 (by decide) ?_
  refine g_istore_n (lv' := [(0, .ref g0), (1, .int p1), (2, .int (p1 / (8 : Int32)))]) X dX8_turn_4 [1, 2, 0] rfl (Nat.le_of_ble_eq_true rfl) rfl ?_
  refine g_iload_n X dX8_turn_5 1 rfl rfl ?_
  refine g_bipush X (8 : Int32) dX8_turn_6 (by decide) ?_
  refine g_irem X dX8_turn_8 (by decide) ?_
  refine g_istore_n (lv' := [(0, .ref g0), (1, .int p1), (2, .int (p1 / (8 : Int32))), (3, .int (p1 - p1 / (8 : Int32) * (8 : Int32)))]) X dX8_turn_9 [1, 2, 3, 0] rfl (Nat.le_of_ble_eq_true rfl) rfl ?_
  refine g_iconst X (1 : Int32) dX8_turn_10 (by decide) ?_
  refine g_aload_n X dX8_turn_11 0 rfl rfl ?_
  refine g_iconst X (0 : Int32) dX8_turn_12 (by decide) ?_
  refine g_iaload X dX8_turn_13 0 0 rfl rfl (by decide) ?_
  refine g_ishl X dX8_turn_14 ?_
  refine g_iconst X (1 : Int32) dX8_turn_15 (by decide) ?_
  refine g_isub X dX8_turn_16 ?_
  refine g_istore (lv' := [(0, .ref g0), (1, .int p1), (2, .int (p1 / (8 : Int32))), (3, .int (p1 - p1 / (8 : Int32) * (8 : Int32))), (4, .int (((1 : Int32) <<< ((w0 (0 : Int32).toNatClampNeg) &&& 31)) - (1 : Int32)))]) X dX8_turn_17 [1, 2, 3, 4, 0] (Nat.le_of_ble_eq_true rfl) rfl ?_
  refine g_iload_n X dX8_turn_19 2 rfl rfl ?_
  refine g_sipush X (4096 : Int32) dX8_turn_20 (by decide) ?_
  refine g_irem X dX8_turn_23 (by decide) ?_
  refine g_iload X dX8_turn_24 4 rfl ?_
  refine g_iand X dX8_turn_26 ?_
  refine g_istore (lv' := [(0, .ref g0), (1, .int p1), (2, .int (p1 / (8 : Int32))), (3, .int (p1 - p1 / (8 : Int32) * (8 : Int32))), (4, .int (((1 : Int32) <<< ((w0 (0 : Int32).toNatClampNeg) &&& 31)) - (1 : Int32))), (5, .int (((p1 / (8 : Int32)) - (p1 / (8 : Int32)) / (4096 : Int32) * (4096 : Int32)) &&& (((1 : Int32) <<< ((w0 (0 : Int32).toNatClampNeg) &&& 31)) - (1 : Int32))))]) X dX8_turn_27 [1, 2, 3, 4, 5, 0] (Nat.le_of_ble_eq_true rfl) rfl ?_
  refine g_sub [0, 2, 3, 4, 5] (lv' := [(0, .ref g0), (2, .int (p1 / (8 : Int32))), (3, .int (p1 - p1 / (8 : Int32) * (8 : Int32))), (4, .int (((1 : Int32) <<< ((w0 (0 : Int32).toNatClampNeg) &&& 31)) - (1 : Int32))), (5, .int (((p1 / (8 : Int32)) - (p1 / (8 : Int32)) / (4096 : Int32) * (4096 : Int32)) &&& (((1 : Int32) <<< ((w0 (0 : Int32).toNatClampNeg) &&& 31)) - (1 : Int32))))]) rfl ?_
  exact j_X8_turn_b29 X hr w0 (p1 / (8 : Int32)) (p1 - p1 / (8 : Int32) * (8 : Int32)) (((1 : Int32) <<< ((w0 (0 : Int32).toNatClampNeg) &&& 31)) - (1 : Int32)) (((p1 / (8 : Int32)) - (p1 / (8 : Int32)) / (4096 : Int32) * (4096 : Int32)) &&& (((1 : Int32) <<< ((w0 (0 : Int32).toNatClampNeg) &&& 31)) - (1 : Int32))) hf
abbrev rmX8_simulate : Room := ({ frames := 6, cells := 0, slots := 0, locals := 137 } : Room)
def f_X8_simulate_B45 (v0 : MOv) (v2 : Fn) (x3 : Int32) (z : Int64 × Int32 × Fn) : Option ((Int64 × Int32 × Fn) ⊕ ((Fn))) :=
  if x3 ≤ z.2.1 then some (.inr ((z.2.2))) else (f_X8_turn z.2.2 (((((z.1 * (6364136223846793005 : Int64)) + (1442695040888963407 : Int64)).toUInt64 >>> ((33 : Int32).toInt64.toUInt64 &&& Int64.toUInt64 63)).toInt64).toInt32)).bind (fun q1038 => some (.inl (((z.1 * (6364136223846793005 : Int64)) + (1442695040888963407 : Int64)), (z.2.1 + (1 : Int32)), q1038)))
set_option maxRecDepth 100000 in
set_option maxHeartbeats 4000000 in
theorem b_X8_simulate_B45 {p : Program} {l : Launch} {e : Env} {s : State} {m : MethodId} {args : Array Value} {below : List Frame} {meth : Method} {c : Code} {A : Nat → Prop} {D : va_G} {cy : Nat → ClassId} {ad : (Nat → Nat) × (Nat → Nat)} {Q : State → Prop} (X : gK p s m args meth c A D cy ad cX8_simulate 7 RX8) (hr : meth.sig.returnType = (some .int)) {h0 h1 h2 h3 h4 h5 h6 h7 h8 : Nat} (v0 : MOv) (v2 : Fn) (x3 : Int32) (z : Int64 × Int32 × Fn) {q : (Int64 × Int32 × Fn) ⊕ ((Fn))} (hf : f_X8_simulate_B45 v0 v2 x3 z = some q) (K1 : ∀ s' : Int64 × Int32 × Fn, q = .inl s' → GW p l e rmX8_simulate s m args below meth c A D 7 0 0 Q 45 [(0, .ref h0), (3, .int x3), (4, .long s'.1), (6, .int s'.2.1)] [] [MO h0 h1 h2 h3 h4 h5 h6 h7 h8 v0, AI cy 107 h2 v2, AI cy 107 h3 s'.2.2]) (K2 : ∀ e' : Fn, q = .inr (e') → GW p l e rmX8_simulate s m args below meth c A D 7 0 0 Q 82 [(0, .ref h0)] [] [MO h0 h1 h2 h3 h4 h5 h6 h7 h8 v0, AI cy 107 h2 v2, AI cy 107 h3 e']) : GW p l e rmX8_simulate s m args below meth c A D 7 0 0 Q 45 [(0, .ref h0), (3, .int x3), (4, .long z.1), (6, .int z.2.1)] [] [MO h0 h1 h2 h3 h4 h5 h6 h7 h8 v0, AI cy 107 h2 v2, AI cy 107 h3 z.2.2] := by
  unfold f_X8_simulate_B45 at hf
  refine g_iload X dX8_simulate_45 3 rfl ?_
  refine g_iload_n X dX8_simulate_47 1 rfl rfl ?_
  refine g_icmp_ge X 82 dX8_simulate_48 (by decide) (fun c1039 => ?_) (fun c1039 => ?_)
  · have hf := opos c1039 hf
    refine g_sub [0] (lv' := [(0, .ref h0)]) rfl ?_
    exact K2 (z.2.2) (Option.some.inj hf).symm
  · have hf := oneg c1039 hf
    refine g_lload X dX8_simulate_51 2 rfl ?_
    refine g_ldc2 X lkl_X8_212 dX8_simulate_53 ?_
    refine g_lmul X dX8_simulate_56 ?_
    refine g_ldc2 X lkl_X8_214 dX8_simulate_57 ?_
    refine g_ladd X dX8_simulate_60 ?_
    refine g_lstore (lv' := [(0, .ref h0), (3, .int x3), (4, .long ((z.1 * (6364136223846793005 : Int64)) + (1442695040888963407 : Int64))), (6, .int z.2.1)]) X dX8_simulate_61 [1, 2, 0, 3] (Nat.le_of_ble_eq_true rfl) rfl ?_
    refine g_aload_n X dX8_simulate_63 0 rfl rfl ?_
    refine g_get X dX8_simulate_64 ck_X8 0 0 4 rfl rfl (Nat.le_of_ble_eq_true rfl) lkf_X8_16 rfl ?_
    refine g_lload X dX8_simulate_67 2 rfl ?_
    refine g_bipush X (33 : Int32) dX8_simulate_69 (by decide) ?_
    refine g_lushr X dX8_simulate_71 ?_
    refine g_l2i X dX8_simulate_72 ?_
    obtain ⟨q1038, hq1038, hf⟩ := obind hf
    refine g_callS (gs' := [MO h0 h1 h2 h3 h4 h5 h6 h7 h8 v0, AI cy 107 h2 v2, AI cy 107 h3 q1038]) (rest := []) X dX8_simulate_73 (c_X8_turn l D cy ad h3 z.2.2 (((((z.1 * (6364136223846793005 : Int64)) + (1442695040888963407 : Int64)).toUInt64 >>> ((33 : Int32).toInt64.toUInt64 &&& Int64.toUInt64 63)).toInt64).toInt32) hq1038) mf_X8_turn ms_X8_turn lkm_X8_216 ⟨(Nat.le_of_ble_eq_true rfl), (Nat.le_of_ble_eq_true rfl), (Nat.le_of_ble_eq_true rfl), (Nat.le_of_ble_eq_true rfl)⟩ [2, 0, 1] _ (by decide : [2, 0, 1].Perm (List.range 3)) rfl (by decide : [2, 0, 1].Perm (List.range 3)) rfl (Nat.le_of_ble_eq_true rfl) rfl ?_
    refine g_iinc (lv' := [(0, .ref h0), (3, .int x3), (4, .long ((z.1 * (6364136223846793005 : Int64)) + (1442695040888963407 : Int64))), (6, .int (z.2.1 + (1 : Int32)))]) (v := (1 : Int32)) X dX8_simulate_76 3 rfl (by decide) [1, 2, 3, 0] (Nat.le_of_ble_eq_true rfl) rfl ?_
    refine g_goto X 45 dX8_simulate_79 (by decide) ?_
    exact K1 (((z.1 * (6364136223846793005 : Int64)) + (1442695040888963407 : Int64)), (z.2.1 + (1 : Int32)), q1038) (Option.some.inj hf).symm
set_option maxRecDepth 100000 in
set_option maxHeartbeats 4000000 in
theorem w_X8_simulate_B45 {p : Program} {l : Launch} {e : Env} {s : State} {m : MethodId} {args : Array Value} {below : List Frame} {meth : Method} {c : Code} {A : Nat → Prop} {D : va_G} {cy : Nat → ClassId} {ad : (Nat → Nat) × (Nat → Nat)} {Q : State → Prop} (X : gK p s m args meth c A D cy ad cX8_simulate 7 RX8) (hr : meth.sig.returnType = (some .int)) {h0 h1 h2 h3 h4 h5 h6 h7 h8 : Nat} (v0 : MOv) (v2 : Fn) (x3 : Int32) {n : Nat} {z : Int64 × Int32 × Fn} {q : (Fn)} (hf : itl (f_X8_simulate_B45 v0 v2 x3) n z = some q) (K2 : GW p l e rmX8_simulate s m args below meth c A D 7 0 0 Q 82 [(0, .ref h0)] [] [MO h0 h1 h2 h3 h4 h5 h6 h7 h8 v0, AI cy 107 h2 v2, AI cy 107 h3 q]) : GW p l e rmX8_simulate s m args below meth c A D 7 0 0 Q 45 [(0, .ref h0), (3, .int x3), (4, .long z.1), (6, .int z.2.1)] [] [MO h0 h1 h2 h3 h4 h5 h6 h7 h8 v0, AI cy 107 h2 v2, AI cy 107 h3 z.2.2] :=
  itl_ind (f := f_X8_simulate_B45 v0 v2 x3) (I := fun z => GW p l e rmX8_simulate s m args below meth c A D 7 0 0 Q 45 [(0, .ref h0), (3, .int x3), (4, .long z.1), (6, .int z.2.1)] [] [MO h0 h1 h2 h3 h4 h5 h6 h7 h8 v0, AI cy 107 h2 v2, AI cy 107 h3 z.2.2]) (J := (fun q => GW p l e rmX8_simulate s m args below meth c A D 7 0 0 Q 82 [(0, .ref h0)] [] [MO h0 h1 h2 h3 h4 h5 h6 h7 h8 v0, AI cy 107 h2 v2, AI cy 107 h3 q])) (fun z x h k1 k2 => b_X8_simulate_B45 X hr v0 v2 x3 z h (fun s' hs => k1 s' hs) (fun e' he => k2 e' he)) n z q hf K2
def f_X8_simulate_b18 (v0 : MOv) (v2 : Fn) (v3 : Fn) (x1 : Int64) (x3 : Int32) (y0 : Bool) : Option (Int32 × MOv × Fn) :=
  (f_X8_refused v0 (b2i y0)).bind (fun q1036 => if (b2i q1036.1) = 0 then (f_X8_copyState 107 107 v2 v3 (0 : Int32) (0 : Int32)).bind (fun q1037 => (itl (f_X8_simulate_B45 q1036.2 v2 x3) FU (x1, (0 : Int32), q1037)).bind (fun q1040 => (f_X8_leftOf q1040).bind (fun q1041 => some ((((1000 : Int32) * (q1040 (4 : Int32).toNatClampNeg)) + q1041), q1036.2, q1040)))) else some ((0 : Int32), q1036.2, v3))
set_option maxRecDepth 100000 in
set_option maxHeartbeats 4000000 in
theorem j_X8_simulate_b18 {p : Program} {l : Launch} {e : Env} {s : State} {m : MethodId} {args : Array Value} {below : List Frame} {meth : Method} {c : Code} {A : Nat → Prop} {D : va_G} {cy : Nat → ClassId} {ad : (Nat → Nat) × (Nat → Nat)} (X : gK p s m args meth c A D cy ad cX8_simulate 7 RX8) (hr : meth.sig.returnType = (some .int)) {h0 h1 h2 h3 h4 h5 h6 h7 h8 : Nat} (v0 : MOv) (v2 : Fn) (v3 : Fn) (x1 : Int64) (x3 : Int32) (y0 : Bool) {q : Int32 × MOv × Fn} (hf : f_X8_simulate_b18 v0 v2 v3 x1 x3 y0 = some q) : GW p l e rmX8_simulate s m args below meth c A D 7 0 0 (MQ below (cmQ D cy A (some (.int q.1)) ([MO h0 h1 h2 h3 h4 h5 h6 h7 h8 q.2.1, AI cy 107 h2 v2, AI cy 107 h3 q.2.2] : List va_W).flatten) args s 0 0 A) 18 [(0, .ref h0), (1, .long x1), (3, .int x3)] [.int (b2i y0), .ref h0] [MO h0 h1 h2 h3 h4 h5 h6 h7 h8 v0, AI cy 107 h2 v2, AI cy 107 h3 v3] := by
  unfold f_X8_simulate_b18 at hf
  obtain ⟨q1036, hq1036, hf⟩ := obind hf
  refine g_callV (gs' := [MO h0 h1 h2 h3 h4 h5 h6 h7 h8 q1036.2, AI cy 107 h2 v2, AI cy 107 h3 v3]) (rest := []) X dX8_simulate_18 (c_X8_refused l D cy ad h0 h1 h2 h3 h4 h5 h6 h7 h8 v0 (b2i y0) hq1036) mf_X8_refused mv_X8_refused lkm_X8_102 ⟨(Nat.le_of_ble_eq_true rfl), (Nat.le_of_ble_eq_true rfl), (Nat.le_of_ble_eq_true rfl), (Nat.le_of_ble_eq_true rfl)⟩ 0 0 rfl rfl rfl rfl [0, 1, 2] _ (by decide : [0, 1, 2].Perm (List.range 3)) rfl (by decide : [0, 1, 2].Perm (List.range 3)) rfl (Nat.le_of_ble_eq_true rfl) rfl ?_
  refine g_if_eq X 26 dX8_simulate_21 (by decide) (fun c1042 => ?_) (fun c1042 => ?_)
  · have hf := opos c1042 hf
    refine g_aload_n X dX8_simulate_26 0 rfl rfl ?_
    refine g_get X dX8_simulate_27 ck_X8 0 0 3 rfl rfl (Nat.le_of_ble_eq_true rfl) lkf_X8_13 rfl ?_
    refine g_iconst X (0 : Int32) dX8_simulate_30 (by decide) ?_
    refine g_aload_n X dX8_simulate_31 0 rfl rfl ?_
    refine g_get X dX8_simulate_32 ck_X8 0 0 4 rfl rfl (Nat.le_of_ble_eq_true rfl) lkf_X8_16 rfl ?_
    refine g_iconst X (0 : Int32) dX8_simulate_35 (by decide) ?_
    obtain ⟨q1037, hq1037, hf⟩ := obind hf
    refine g_callS (gs' := [MO h0 h1 h2 h3 h4 h5 h6 h7 h8 q1036.2, AI cy 107 h2 v2, AI cy 107 h3 q1037]) (rest := []) X dX8_simulate_36 (c_X8_copyState l D cy ad h2 h3 107 107 v2 v3 (0 : Int32) (0 : Int32) hq1037) mf_X8_copyState ms_X8_copyState lkm_X8_154 ⟨(Nat.le_of_ble_eq_true rfl), (Nat.le_of_ble_eq_true rfl), (Nat.le_of_ble_eq_true rfl), (Nat.le_of_ble_eq_true rfl)⟩ [1, 2, 0] _ (by decide : [1, 2, 0].Perm (List.range 3)) rfl (by decide : [1, 2, 0].Perm (List.range 3)) rfl (Nat.le_of_ble_eq_true rfl) rfl ?_
    refine g_lload_n X dX8_simulate_39 1 rfl rfl ?_
    refine g_lstore (lv' := [(0, .ref h0), (1, .long x1), (3, .int x3), (4, .long x1)]) X dX8_simulate_40 [1, 2, 3, 0] (Nat.le_of_ble_eq_true rfl) rfl ?_
    refine g_iconst X (0 : Int32) dX8_simulate_42 (by decide) ?_
    refine g_istore (lv' := [(0, .ref h0), (1, .long x1), (3, .int x3), (4, .long x1), (6, .int (0 : Int32))]) X dX8_simulate_43 [1, 2, 3, 4, 0] (Nat.le_of_ble_eq_true rfl) rfl ?_
    obtain ⟨q1040, hq1040, hf⟩ := obind hf
    refine g_sub [0, 2, 3, 4] (lv' := [(0, .ref h0), (3, .int x3), (4, .long x1), (6, .int (0 : Int32))]) rfl ?_
    refine w_X8_simulate_B45 X hr q1036.2 v2 x3 hq1040 ?_
    refine g_sipush X (1000 : Int32) dX8_simulate_82 (by decide) ?_
    refine g_aload_n X dX8_simulate_85 0 rfl rfl ?_
    refine g_get X dX8_simulate_86 ck_X8 0 0 4 rfl rfl (Nat.le_of_ble_eq_true rfl) lkf_X8_16 rfl ?_
    refine g_iconst X (4 : Int32) dX8_simulate_89 (by decide) ?_
    refine g_iaload X dX8_simulate_90 2 0 rfl rfl (by decide) ?_
    refine g_imul X dX8_simulate_91 ?_
    refine g_aload_n X dX8_simulate_92 0 rfl rfl ?_
    refine g_get X dX8_simulate_93 ck_X8 0 0 4 rfl rfl (Nat.le_of_ble_eq_true rfl) lkf_X8_16 rfl ?_
    obtain ⟨q1041, hq1041, hf⟩ := obind hf
    refine g_callS (gs' := [MO h0 h1 h2 h3 h4 h5 h6 h7 h8 q1036.2, AI cy 107 h2 v2, AI cy 107 h3 q1040]) (rest := [.int ((1000 : Int32) * (q1040 (4 : Int32).toNatClampNeg))]) X dX8_simulate_96 (c_X8_leftOf l D cy ad h3 q1040 hq1041) mf_X8_leftOf ms_X8_leftOf lkm_X8_86 ⟨(Nat.le_of_ble_eq_true rfl), (Nat.le_of_ble_eq_true rfl), (Nat.le_of_ble_eq_true rfl), (Nat.le_of_ble_eq_true rfl)⟩ [2, 0, 1] _ (by decide : [2, 0, 1].Perm (List.range 3)) rfl (by decide : [2, 0, 1].Perm (List.range 3)) rfl (Nat.le_of_ble_eq_true rfl) rfl ?_
    refine g_iadd X dX8_simulate_99 ?_
    have hf := Option.some.inj hf
    subst hf
    exact g_iret X hr dX8_simulate_100
  · have hf := oneg c1042 hf
    refine g_iconst X (0 : Int32) dX8_simulate_24 (by decide) ?_
    have hf := Option.some.inj hf
    subst hf
    exact g_iret X hr dX8_simulate_25
def f_X8_simulate (v0 : MOv) (v2 : Fn) (v3 : Fn) (p1 : Int64) (p2 : Int32) : Option (Int32 × MOv × Fn) :=
  (f_X8_in (p2.toInt64) (1 : Int64) (60 : Int64)).bind (fun q1035 => if (b2i q1035) = 0 then f_X8_simulate_b18 v0 v2 v3 p1 p2 true else f_X8_simulate_b18 v0 v2 v3 p1 p2 false)
set_option maxRecDepth 100000 in
set_option maxHeartbeats 4000000 in
theorem c_X8_simulate (l : Launch) (D : va_G) (cy : Nat → ClassId) (ad : (Nat → Nat) × (Nat → Nat)) (h0 h1 h2 h3 h4 h5 h6 h7 h8 : Nat) (v0 : MOv) (v2 : Fn) (v3 : Fn) (p1 : Int64) (p2 : Int32) {q : Int32 × MOv × Fn} (hf : f_X8_simulate v0 v2 v3 p1 p2 = some q) : CM l yX8_simulate cX8_simulate 7 (some .int) rmX8_simulate D cy ad [.ref h0, .long p1, .int p2] [MO h0 h1 h2 h3 h4 h5 h6 h7 h8 v0, AI cy 107 h2 v2, AI cy 107 h3 v3] (some (.int q.1)) [MO h0 h1 h2 h3 h4 h5 h6 h7 h8 q.2.1, AI cy 107 h2 v2, AI cy 107 h3 q.2.2] := by
  refine cm_of (lv0 := [(0, .ref h0), (1, .long p1), (3, .int p2)]) (by decide) (Nat.le_of_ble_eq_true rfl) rfl ?_
  intro p e s m args below meth c A X hr hn
  have X : gK p s m args meth c A D cy ad cX8_simulate 7 RX8 := X
  unfold f_X8_simulate at hf
  refine g_aload_n X dX8_simulate_0 0 rfl rfl ?_
  refine g_iload_n X dX8_simulate_1 2 rfl rfl ?_
  refine g_i2l X dX8_simulate_2 ?_
  refine g_lconst X (1 : Int64) dX8_simulate_3 (by decide) ?_
  refine g_ldc2 X lkl_X8_210 dX8_simulate_4 ?_
  obtain ⟨q1035, hq1035, hf⟩ := obind hf
  refine g_callS (gs' := [MO h0 h1 h2 h3 h4 h5 h6 h7 h8 v0, AI cy 107 h2 v2, AI cy 107 h3 v3]) (rest := [.ref h0]) X dX8_simulate_7 (c_X8_in l D cy ad (p2.toInt64) (1 : Int64) (60 : Int64) hq1035) mf_X8_in ms_X8_in lkm_X8_43 ⟨(Nat.le_of_ble_eq_true rfl), (Nat.le_of_ble_eq_true rfl), (Nat.le_of_ble_eq_true rfl), (Nat.le_of_ble_eq_true rfl)⟩ [0, 1, 2] _ (by decide : [0, 1, 2].Perm (List.range 3)) rfl (by decide : [0, 1, 2].Perm (List.range 3)) rfl (Nat.le_of_ble_eq_true rfl) rfl ?_
  refine g_if_eq X 17 dX8_simulate_10 (by decide) (fun c1043 => ?_) (fun c1043 => ?_)
  · have hf := opos c1043 hf
    refine g_iconst X (1 : Int32) dX8_simulate_17 (by decide) ?_
    exact j_X8_simulate_b18 X hr v0 v2 v3 p1 p2 true hf
  · have hf := oneg c1043 hf
    refine g_iconst X (0 : Int32) dX8_simulate_13 (by decide) ?_
    refine g_goto X 18 dX8_simulate_14 (by decide) ?_
    exact j_X8_simulate_b18 X hr v0 v2 v3 p1 p2 false hf
abbrev rmX8_save : Room := ({ frames := 6, cells := 0, slots := 0, locals := 137 } : Room)
def f_X8_save_b16 (v0 : MOv) (v2 : Fn) (v5 : Fn) (v6 : Fn) (x1 : Int32) (y0 : Bool) : Option (Int32 × MOv × Fn × Fn) :=
  (f_X8_refused v0 (b2i y0)).bind (fun q1055 => if (b2i q1055.1) = 0 then (f_X8_copyState 107 214 v2 v5 (0 : Int32) ((107 : Int32) * x1)).bind (fun q1056 => if x1 < 0 ∨ 2 ≤ x1.toNatClampNeg then none else (f_X8_leftOf v2).bind (fun q1058 => some (q1058, q1055.2, q1056, (upd v6 x1.toNatClampNeg (vp_nar .boolean (1 : Int32)))))) else some ((0 : Int32), q1055.2, v5, v6))
set_option maxRecDepth 100000 in
set_option maxHeartbeats 4000000 in
theorem j_X8_save_b16 {p : Program} {l : Launch} {e : Env} {s : State} {m : MethodId} {args : Array Value} {below : List Frame} {meth : Method} {c : Code} {A : Nat → Prop} {D : va_G} {cy : Nat → ClassId} {ad : (Nat → Nat) × (Nat → Nat)} (X : gK p s m args meth c A D cy ad cX8_save 2 RX8) (hr : meth.sig.returnType = (some .int)) {h0 h1 h2 h3 h4 h5 h6 h7 h8 : Nat} (v0 : MOv) (v2 : Fn) (v5 : Fn) (v6 : Fn) (x1 : Int32) (y0 : Bool) {q : Int32 × MOv × Fn × Fn} (hf : f_X8_save_b16 v0 v2 v5 v6 x1 y0 = some q) : GW p l e rmX8_save s m args below meth c A D 2 0 0 (MQ below (cmQ D cy A (some (.int q.1)) ([MO h0 h1 h2 h3 h4 h5 h6 h7 h8 q.2.1, AI cy 107 h2 v2, AI cy 214 h5 q.2.2.1, AZ cy 2 h6 q.2.2.2] : List va_W).flatten) args s 0 0 A) 16 [(0, .ref h0), (1, .int x1)] [.int (b2i y0), .ref h0] [MO h0 h1 h2 h3 h4 h5 h6 h7 h8 v0, AI cy 107 h2 v2, AI cy 214 h5 v5, AZ cy 2 h6 v6] := by
  unfold f_X8_save_b16 at hf
  obtain ⟨q1055, hq1055, hf⟩ := obind hf
  refine g_callV (gs' := [MO h0 h1 h2 h3 h4 h5 h6 h7 h8 q1055.2, AI cy 107 h2 v2, AI cy 214 h5 v5, AZ cy 2 h6 v6]) (rest := []) X dX8_save_16 (c_X8_refused l D cy ad h0 h1 h2 h3 h4 h5 h6 h7 h8 v0 (b2i y0) hq1055) mf_X8_refused mv_X8_refused lkm_X8_102 ⟨(Nat.le_of_ble_eq_true rfl), (Nat.le_of_ble_eq_true rfl), (Nat.le_of_ble_eq_true rfl), (Nat.le_of_ble_eq_true rfl)⟩ 0 0 rfl rfl rfl rfl [0, 1, 2, 3] _ (by decide : [0, 1, 2, 3].Perm (List.range 4)) rfl (by decide : [0, 1, 2, 3].Perm (List.range 4)) rfl (Nat.le_of_ble_eq_true rfl) rfl ?_
  refine g_if_eq X 24 dX8_save_19 (by decide) (fun c1059 => ?_) (fun c1059 => ?_)
  · have hf := opos c1059 hf
    refine g_aload_n X dX8_save_24 0 rfl rfl ?_
    refine g_get X dX8_save_25 ck_X8 0 0 3 rfl rfl (Nat.le_of_ble_eq_true rfl) lkf_X8_13 rfl ?_
    refine g_iconst X (0 : Int32) dX8_save_28 (by decide) ?_
    refine g_aload_n X dX8_save_29 0 rfl rfl ?_
    refine g_get X dX8_save_30 ck_X8 0 0 7 rfl rfl (Nat.le_of_ble_eq_true rfl) lkf_X8_22 rfl ?_
    refine g_bipush X (107 : Int32) dX8_save_33 (by decide) ?_
    refine g_iload_n X dX8_save_35 1 rfl rfl ?_
    refine g_imul X dX8_save_36 ?_
    obtain ⟨q1056, hq1056, hf⟩ := obind hf
    refine g_callS (gs' := [MO h0 h1 h2 h3 h4 h5 h6 h7 h8 q1055.2, AI cy 107 h2 v2, AI cy 214 h5 q1056, AZ cy 2 h6 v6]) (rest := []) X dX8_save_37 (c_X8_copyState l D cy ad h2 h5 107 214 v2 v5 (0 : Int32) ((107 : Int32) * x1) hq1056) mf_X8_copyState ms_X8_copyState lkm_X8_154 ⟨(Nat.le_of_ble_eq_true rfl), (Nat.le_of_ble_eq_true rfl), (Nat.le_of_ble_eq_true rfl), (Nat.le_of_ble_eq_true rfl)⟩ [1, 2, 0, 3] _ (by decide : [1, 2, 0, 3].Perm (List.range 4)) rfl (by decide : [1, 2, 0, 3].Perm (List.range 4)) rfl (Nat.le_of_ble_eq_true rfl) rfl ?_
    refine g_aload_n X dX8_save_40 0 rfl rfl ?_
    refine g_get X dX8_save_41 ck_X8 0 0 8 rfl rfl (Nat.le_of_ble_eq_true rfl) lkf_X8_25 rfl ?_
    refine g_iload_n X dX8_save_44 1 rfl rfl ?_
    refine g_iconst X (1 : Int32) dX8_save_45 (by decide) ?_
    obtain ⟨n1057, hf⟩ := oguard hf
    refine g_bastore (gs' := [MO h0 h1 h2 h3 h4 h5 h6 h7 h8 q1055.2, AI cy 107 h2 v2, AI cy 214 h5 q1056, AZ cy 2 h6 (upd v6 x1.toNatClampNeg (vp_nar .boolean (1 : Int32)))]) X dX8_save_46 3 0 rfl rfl n1057 rfl ?_
    refine g_aload_n X dX8_save_47 0 rfl rfl ?_
    refine g_get X dX8_save_48 ck_X8 0 0 3 rfl rfl (Nat.le_of_ble_eq_true rfl) lkf_X8_13 rfl ?_
    obtain ⟨q1058, hq1058, hf⟩ := obind hf
    refine g_callS (gs' := [MO h0 h1 h2 h3 h4 h5 h6 h7 h8 q1055.2, AI cy 107 h2 v2, AI cy 214 h5 q1056, AZ cy 2 h6 (upd v6 x1.toNatClampNeg (vp_nar .boolean (1 : Int32)))]) (rest := []) X dX8_save_51 (c_X8_leftOf l D cy ad h2 v2 hq1058) mf_X8_leftOf ms_X8_leftOf lkm_X8_86 ⟨(Nat.le_of_ble_eq_true rfl), (Nat.le_of_ble_eq_true rfl), (Nat.le_of_ble_eq_true rfl), (Nat.le_of_ble_eq_true rfl)⟩ [1, 0, 2, 3] _ (by decide : [1, 0, 2, 3].Perm (List.range 4)) rfl (by decide : [1, 0, 2, 3].Perm (List.range 4)) rfl (Nat.le_of_ble_eq_true rfl) rfl ?_
    have hf := Option.some.inj hf
    subst hf
    exact g_iret X hr dX8_save_54
  · have hf := oneg c1059 hf
    refine g_iconst X (0 : Int32) dX8_save_22 (by decide) ?_
    have hf := Option.some.inj hf
    subst hf
    exact g_iret X hr dX8_save_23
def f_X8_save (v0 : MOv) (v2 : Fn) (v5 : Fn) (v6 : Fn) (p1 : Int32) : Option (Int32 × MOv × Fn × Fn) :=
  (f_X8_in (p1.toInt64) (0 : Int64) (1 : Int64)).bind (fun q1054 => if (b2i q1054) = 0 then f_X8_save_b16 v0 v2 v5 v6 p1 true else f_X8_save_b16 v0 v2 v5 v6 p1 false)
set_option maxRecDepth 100000 in
set_option maxHeartbeats 4000000 in
theorem c_X8_save (l : Launch) (D : va_G) (cy : Nat → ClassId) (ad : (Nat → Nat) × (Nat → Nat)) (h0 h1 h2 h3 h4 h5 h6 h7 h8 : Nat) (v0 : MOv) (v2 : Fn) (v5 : Fn) (v6 : Fn) (p1 : Int32) {q : Int32 × MOv × Fn × Fn} (hf : f_X8_save v0 v2 v5 v6 p1 = some q) : CM l yX8_save cX8_save 2 (some .int) rmX8_save D cy ad [.ref h0, .int p1] [MO h0 h1 h2 h3 h4 h5 h6 h7 h8 v0, AI cy 107 h2 v2, AI cy 214 h5 v5, AZ cy 2 h6 v6] (some (.int q.1)) [MO h0 h1 h2 h3 h4 h5 h6 h7 h8 q.2.1, AI cy 107 h2 v2, AI cy 214 h5 q.2.2.1, AZ cy 2 h6 q.2.2.2] := by
  refine cm_of (lv0 := [(0, .ref h0), (1, .int p1)]) (by decide) (Nat.le_of_ble_eq_true rfl) rfl ?_
  intro p e s m args below meth c A X hr hn
  have X : gK p s m args meth c A D cy ad cX8_save 2 RX8 := X
  unfold f_X8_save at hf
  refine g_aload_n X dX8_save_0 0 rfl rfl ?_
  refine g_iload_n X dX8_save_1 1 rfl rfl ?_
  refine g_i2l X dX8_save_2 ?_
  refine g_lconst X (0 : Int64) dX8_save_3 (by decide) ?_
  refine g_lconst X (1 : Int64) dX8_save_4 (by decide) ?_
  obtain ⟨q1054, hq1054, hf⟩ := obind hf
  refine g_callS (gs' := [MO h0 h1 h2 h3 h4 h5 h6 h7 h8 v0, AI cy 107 h2 v2, AI cy 214 h5 v5, AZ cy 2 h6 v6]) (rest := [.ref h0]) X dX8_save_5 (c_X8_in l D cy ad (p1.toInt64) (0 : Int64) (1 : Int64) hq1054) mf_X8_in ms_X8_in lkm_X8_43 ⟨(Nat.le_of_ble_eq_true rfl), (Nat.le_of_ble_eq_true rfl), (Nat.le_of_ble_eq_true rfl), (Nat.le_of_ble_eq_true rfl)⟩ [0, 1, 2, 3] _ (by decide : [0, 1, 2, 3].Perm (List.range 4)) rfl (by decide : [0, 1, 2, 3].Perm (List.range 4)) rfl (Nat.le_of_ble_eq_true rfl) rfl ?_
  refine g_if_eq X 15 dX8_save_8 (by decide) (fun c1060 => ?_) (fun c1060 => ?_)
  · have hf := opos c1060 hf
    refine g_iconst X (1 : Int32) dX8_save_15 (by decide) ?_
    exact j_X8_save_b16 X hr v0 v2 v5 v6 p1 true hf
  · have hf := oneg c1060 hf
    refine g_iconst X (0 : Int32) dX8_save_11 (by decide) ?_
    refine g_goto X 16 dX8_save_12 (by decide) ?_
    exact j_X8_save_b16 X hr v0 v2 v5 v6 p1 false hf
abbrev rmX8_restore : Room := ({ frames := 6, cells := 0, slots := 0, locals := 137 } : Room)
def f_X8_restore_b29 (v0 : MOv) (v2 : Fn) (v5 : Fn) (v6 : Fn) (x1 : Int32) (y0 : Int32) : Option (Int32 × MOv × Fn) :=
  (f_X8_refused v0 y0).bind (fun q1073 => if (b2i q1073.1) = 0 then (f_X8_copyState 214 107 v5 v2 ((107 : Int32) * x1) (0 : Int32)).bind (fun q1074 => (f_X8_leftOf q1074).bind (fun q1075 => some (q1075, (q1073.2.1, q1073.2.2.1, (0 : Int32), q1073.2.2.2.2.1, q1073.2.2.2.2.2.1, q1073.2.2.2.2.2.2), q1074))) else some ((0 : Int32), q1073.2, v2))
set_option maxRecDepth 100000 in
set_option maxHeartbeats 4000000 in
theorem j_X8_restore_b29 {p : Program} {l : Launch} {e : Env} {s : State} {m : MethodId} {args : Array Value} {below : List Frame} {meth : Method} {c : Code} {A : Nat → Prop} {D : va_G} {cy : Nat → ClassId} {ad : (Nat → Nat) × (Nat → Nat)} (X : gK p s m args meth c A D cy ad cX8_restore 2 RX8) (hr : meth.sig.returnType = (some .int)) {h0 h1 h2 h3 h4 h5 h6 h7 h8 : Nat} (v0 : MOv) (v2 : Fn) (v5 : Fn) (v6 : Fn) (x1 : Int32) (y0 : Int32) {q : Int32 × MOv × Fn} (hf : f_X8_restore_b29 v0 v2 v5 v6 x1 y0 = some q) : GW p l e rmX8_restore s m args below meth c A D 2 0 0 (MQ below (cmQ D cy A (some (.int q.1)) ([MO h0 h1 h2 h3 h4 h5 h6 h7 h8 q.2.1, AI cy 107 h2 q.2.2, AI cy 214 h5 v5, AZ cy 2 h6 v6] : List va_W).flatten) args s 0 0 A) 29 [(0, .ref h0), (1, .int x1)] [.int y0, .ref h0] [MO h0 h1 h2 h3 h4 h5 h6 h7 h8 v0, AI cy 107 h2 v2, AI cy 214 h5 v5, AZ cy 2 h6 v6] := by
  unfold f_X8_restore_b29 at hf
  obtain ⟨q1073, hq1073, hf⟩ := obind hf
  refine g_callV (gs' := [MO h0 h1 h2 h3 h4 h5 h6 h7 h8 q1073.2, AI cy 107 h2 v2, AI cy 214 h5 v5, AZ cy 2 h6 v6]) (rest := []) X dX8_restore_29 (c_X8_refused l D cy ad h0 h1 h2 h3 h4 h5 h6 h7 h8 v0 y0 hq1073) mf_X8_refused mv_X8_refused lkm_X8_102 ⟨(Nat.le_of_ble_eq_true rfl), (Nat.le_of_ble_eq_true rfl), (Nat.le_of_ble_eq_true rfl), (Nat.le_of_ble_eq_true rfl)⟩ 0 0 rfl rfl rfl rfl [0, 1, 2, 3] _ (by decide : [0, 1, 2, 3].Perm (List.range 4)) rfl (by decide : [0, 1, 2, 3].Perm (List.range 4)) rfl (Nat.le_of_ble_eq_true rfl) rfl ?_
  refine g_if_eq X 37 dX8_restore_32 (by decide) (fun c1076 => ?_) (fun c1076 => ?_)
  · have hf := opos c1076 hf
    refine g_aload_n X dX8_restore_37 0 rfl rfl ?_
    refine g_get X dX8_restore_38 ck_X8 0 0 7 rfl rfl (Nat.le_of_ble_eq_true rfl) lkf_X8_22 rfl ?_
    refine g_bipush X (107 : Int32) dX8_restore_41 (by decide) ?_
    refine g_iload_n X dX8_restore_43 1 rfl rfl ?_
    refine g_imul X dX8_restore_44 ?_
    refine g_aload_n X dX8_restore_45 0 rfl rfl ?_
    refine g_get X dX8_restore_46 ck_X8 0 0 3 rfl rfl (Nat.le_of_ble_eq_true rfl) lkf_X8_13 rfl ?_
    refine g_iconst X (0 : Int32) dX8_restore_49 (by decide) ?_
    obtain ⟨q1074, hq1074, hf⟩ := obind hf
    refine g_callS (gs' := [MO h0 h1 h2 h3 h4 h5 h6 h7 h8 q1073.2, AI cy 107 h2 q1074, AI cy 214 h5 v5, AZ cy 2 h6 v6]) (rest := []) X dX8_restore_50 (c_X8_copyState l D cy ad h5 h2 214 107 v5 v2 ((107 : Int32) * x1) (0 : Int32) hq1074) mf_X8_copyState ms_X8_copyState lkm_X8_154 ⟨(Nat.le_of_ble_eq_true rfl), (Nat.le_of_ble_eq_true rfl), (Nat.le_of_ble_eq_true rfl), (Nat.le_of_ble_eq_true rfl)⟩ [2, 1, 0, 3] _ (by decide : [2, 1, 0, 3].Perm (List.range 4)) rfl (by decide : [2, 1, 0, 3].Perm (List.range 4)) rfl (Nat.le_of_ble_eq_true rfl) rfl ?_
    refine g_aload_n X dX8_restore_53 0 rfl rfl ?_
    refine g_iconst X (0 : Int32) dX8_restore_54 (by decide) ?_
    refine g_put (gs' := [MO h0 h1 h2 h3 h4 h5 h6 h7 h8 (q1073.2.1, q1073.2.2.1, (0 : Int32), q1073.2.2.2.2.1, q1073.2.2.2.2.2.1, q1073.2.2.2.2.2.2), AI cy 107 h2 q1074, AI cy 214 h5 v5, AZ cy 2 h6 v6]) X dX8_restore_55 ck_X8 ct_X8 0 0 6 rfl rfl (Nat.le_of_ble_eq_true rfl) lkf_X8_158 rfl rfl rfl (Nat.le_of_ble_eq_true rfl) rfl ?_
    refine g_aload_n X dX8_restore_58 0 rfl rfl ?_
    refine g_get X dX8_restore_59 ck_X8 0 0 3 rfl rfl (Nat.le_of_ble_eq_true rfl) lkf_X8_13 rfl ?_
    obtain ⟨q1075, hq1075, hf⟩ := obind hf
    refine g_callS (gs' := [MO h0 h1 h2 h3 h4 h5 h6 h7 h8 (q1073.2.1, q1073.2.2.1, (0 : Int32), q1073.2.2.2.2.1, q1073.2.2.2.2.2.1, q1073.2.2.2.2.2.2), AI cy 107 h2 q1074, AI cy 214 h5 v5, AZ cy 2 h6 v6]) (rest := []) X dX8_restore_62 (c_X8_leftOf l D cy ad h2 q1074 hq1075) mf_X8_leftOf ms_X8_leftOf lkm_X8_86 ⟨(Nat.le_of_ble_eq_true rfl), (Nat.le_of_ble_eq_true rfl), (Nat.le_of_ble_eq_true rfl), (Nat.le_of_ble_eq_true rfl)⟩ [1, 0, 2, 3] _ (by decide : [1, 0, 2, 3].Perm (List.range 4)) rfl (by decide : [1, 0, 2, 3].Perm (List.range 4)) rfl (Nat.le_of_ble_eq_true rfl) rfl ?_
    have hf := Option.some.inj hf
    subst hf
    exact g_iret X hr dX8_restore_65
  · have hf := oneg c1076 hf
    refine g_iconst X (0 : Int32) dX8_restore_35 (by decide) ?_
    have hf := Option.some.inj hf
    subst hf
    exact g_iret X hr dX8_restore_36
def f_X8_restore (v0 : MOv) (v2 : Fn) (v5 : Fn) (v6 : Fn) (p1 : Int32) : Option (Int32 × MOv × Fn) :=
  (f_X8_in (p1.toInt64) (0 : Int64) (1 : Int64)).bind (fun q1071 => if (b2i q1071) = 0 then f_X8_restore_b29 v0 v2 v5 v6 p1 (1 : Int32) else if p1 < 0 ∨ 2 ≤ p1.toNatClampNeg then none else if (v6 p1.toNatClampNeg) = 0 then f_X8_restore_b29 v0 v2 v5 v6 p1 (2 : Int32) else f_X8_restore_b29 v0 v2 v5 v6 p1 (0 : Int32))
set_option maxRecDepth 100000 in
set_option maxHeartbeats 4000000 in
theorem c_X8_restore (l : Launch) (D : va_G) (cy : Nat → ClassId) (ad : (Nat → Nat) × (Nat → Nat)) (h0 h1 h2 h3 h4 h5 h6 h7 h8 : Nat) (v0 : MOv) (v2 : Fn) (v5 : Fn) (v6 : Fn) (p1 : Int32) {q : Int32 × MOv × Fn} (hf : f_X8_restore v0 v2 v5 v6 p1 = some q) : CM l yX8_restore cX8_restore 2 (some .int) rmX8_restore D cy ad [.ref h0, .int p1] [MO h0 h1 h2 h3 h4 h5 h6 h7 h8 v0, AI cy 107 h2 v2, AI cy 214 h5 v5, AZ cy 2 h6 v6] (some (.int q.1)) [MO h0 h1 h2 h3 h4 h5 h6 h7 h8 q.2.1, AI cy 107 h2 q.2.2, AI cy 214 h5 v5, AZ cy 2 h6 v6] := by
  refine cm_of (lv0 := [(0, .ref h0), (1, .int p1)]) (by decide) (Nat.le_of_ble_eq_true rfl) rfl ?_
  intro p e s m args below meth c A X hr hn
  have X : gK p s m args meth c A D cy ad cX8_restore 2 RX8 := X
  unfold f_X8_restore at hf
  refine g_aload_n X dX8_restore_0 0 rfl rfl ?_
  refine g_iload_n X dX8_restore_1 1 rfl rfl ?_
  refine g_i2l X dX8_restore_2 ?_
  refine g_lconst X (0 : Int64) dX8_restore_3 (by decide) ?_
  refine g_lconst X (1 : Int64) dX8_restore_4 (by decide) ?_
  obtain ⟨q1071, hq1071, hf⟩ := obind hf
  refine g_callS (gs' := [MO h0 h1 h2 h3 h4 h5 h6 h7 h8 v0, AI cy 107 h2 v2, AI cy 214 h5 v5, AZ cy 2 h6 v6]) (rest := [.ref h0]) X dX8_restore_5 (c_X8_in l D cy ad (p1.toInt64) (0 : Int64) (1 : Int64) hq1071) mf_X8_in ms_X8_in lkm_X8_43 ⟨(Nat.le_of_ble_eq_true rfl), (Nat.le_of_ble_eq_true rfl), (Nat.le_of_ble_eq_true rfl), (Nat.le_of_ble_eq_true rfl)⟩ [0, 1, 2, 3] _ (by decide : [0, 1, 2, 3].Perm (List.range 4)) rfl (by decide : [0, 1, 2, 3].Perm (List.range 4)) rfl (Nat.le_of_ble_eq_true rfl) rfl ?_
  refine g_if_ne X 15 dX8_restore_8 (by decide) (fun c1078 => ?_) (fun c1078 => ?_)
  · have hf := oneg c1078 hf
    refine g_aload_n X dX8_restore_15 0 rfl rfl ?_
    refine g_get X dX8_restore_16 ck_X8 0 0 8 rfl rfl (Nat.le_of_ble_eq_true rfl) lkf_X8_25 rfl ?_
    refine g_iload_n X dX8_restore_19 1 rfl rfl ?_
    obtain ⟨n1072, hf⟩ := oguard hf
    refine g_baload X dX8_restore_20 3 0 rfl rfl n1072 ?_
    refine g_if_ne X 28 dX8_restore_21 (by decide) (fun c1077 => ?_) (fun c1077 => ?_)
    · have hf := oneg c1077 hf
      refine g_iconst X (0 : Int32) dX8_restore_28 (by decide) ?_
      exact j_X8_restore_b29 X hr v0 v2 v5 v6 p1 (0 : Int32) hf
    · have hf := opos c1077 hf
      refine g_iconst X (2 : Int32) dX8_restore_24 (by decide) ?_
      refine g_goto X 29 dX8_restore_25 (by decide) ?_
      exact j_X8_restore_b29 X hr v0 v2 v5 v6 p1 (2 : Int32) hf
  · have hf := opos c1078 hf
    refine g_iconst X (1 : Int32) dX8_restore_11 (by decide) ?_
    refine g_goto X 29 dX8_restore_12 (by decide) ?_
    exact j_X8_restore_b29 X hr v0 v2 v5 v6 p1 (1 : Int32) hf
