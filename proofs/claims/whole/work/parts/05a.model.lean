abbrev rmX8_clear : Room := ({ frames := 0, cells := 0, slots := 0, locals := 0 } : Room)
def f_X8_clear_B2 (z : Int32 × Fn) : Option ((Int32 × Fn) ⊕ ((Fn))) :=
  if (107 : Int32) ≤ z.1 then some (.inr ((z.2))) else if z.1 < 0 ∨ 107 ≤ z.1.toNatClampNeg then none else some (.inl ((z.1 + (1 : Int32)), (upd z.2 z.1.toNatClampNeg (0 : Int32))))
set_option maxRecDepth 100000 in
set_option maxHeartbeats 4000000 in
theorem b_X8_clear_B2 {p : Program} {l : Launch} {e : Env} {s : State} {m : MethodId} {args : Array Value} {below : List Frame} {meth : Method} {c : Code} {A : Nat → Prop} {D : va_G} {cy : Nat → ClassId} {ad : (Nat → Nat) × (Nat → Nat)} {Q : State → Prop} (X : gK p s m args meth c A D cy ad cX8_clear 2 RX8) (hr : meth.sig.returnType = none) {g0 : Nat} (z : Int32 × Fn) {q : (Int32 × Fn) ⊕ ((Fn))} (hf : f_X8_clear_B2 z = some q) (K1 : ∀ s' : Int32 × Fn, q = .inl s' → GW p l e rmX8_clear s m args below meth c A D 2 0 0 Q 2 [(0, .ref g0), (1, .int s'.1)] [] [AI cy 107 g0 s'.2]) (K2 : ∀ e' : Fn, q = .inr (e') → GW p l e rmX8_clear s m args below meth c A D 2 0 0 Q 18 [(0, .ref g0)] [] [AI cy 107 g0 e']) : GW p l e rmX8_clear s m args below meth c A D 2 0 0 Q 2 [(0, .ref g0), (1, .int z.1)] [] [AI cy 107 g0 z.2] := by
  unfold f_X8_clear_B2 at hf
  refine g_iload_n X dX8_clear_2 1 rfl rfl ?_
  refine g_bipush X (107 : Int32) dX8_clear_3 (by decide) ?_
  refine g_icmp_ge X 18 dX8_clear_5 (by decide) (fun c831 => ?_) (fun c831 => ?_)
  · have hf := opos c831 hf
    refine g_sub [0] (lv' := [(0, .ref g0)]) rfl ?_
    exact K2 (z.2) (Option.some.inj hf).symm
  · have hf := oneg c831 hf
    refine g_aload_n X dX8_clear_8 0 rfl rfl ?_
    refine g_iload_n X dX8_clear_9 1 rfl rfl ?_
    refine g_iconst X (0 : Int32) dX8_clear_10 (by decide) ?_
    obtain ⟨n830, hf⟩ := oguard hf
    refine g_iastore (gs' := [AI cy 107 g0 (upd z.2 z.1.toNatClampNeg (0 : Int32))]) X dX8_clear_11 0 0 rfl rfl n830 rfl ?_
    refine g_iinc (lv' := [(0, .ref g0), (1, .int (z.1 + (1 : Int32)))]) (v := (1 : Int32)) X dX8_clear_12 1 rfl (by decide) [1, 0] (Nat.le_of_ble_eq_true rfl) rfl ?_
    refine g_goto X 2 dX8_clear_15 (by decide) ?_
    exact K1 ((z.1 + (1 : Int32)), (upd z.2 z.1.toNatClampNeg (0 : Int32))) (Option.some.inj hf).symm
set_option maxRecDepth 100000 in
set_option maxHeartbeats 4000000 in
theorem w_X8_clear_B2 {p : Program} {l : Launch} {e : Env} {s : State} {m : MethodId} {args : Array Value} {below : List Frame} {meth : Method} {c : Code} {A : Nat → Prop} {D : va_G} {cy : Nat → ClassId} {ad : (Nat → Nat) × (Nat → Nat)} {Q : State → Prop} (X : gK p s m args meth c A D cy ad cX8_clear 2 RX8) (hr : meth.sig.returnType = none) {g0 : Nat} {n : Nat} {z : Int32 × Fn} {q : (Fn)} (hf : itl (f_X8_clear_B2) n z = some q) (K2 : GW p l e rmX8_clear s m args below meth c A D 2 0 0 Q 18 [(0, .ref g0)] [] [AI cy 107 g0 q]) : GW p l e rmX8_clear s m args below meth c A D 2 0 0 Q 2 [(0, .ref g0), (1, .int z.1)] [] [AI cy 107 g0 z.2] :=
  itl_ind (f := f_X8_clear_B2) (I := fun z => GW p l e rmX8_clear s m args below meth c A D 2 0 0 Q 2 [(0, .ref g0), (1, .int z.1)] [] [AI cy 107 g0 z.2]) (J := (fun q => GW p l e rmX8_clear s m args below meth c A D 2 0 0 Q 18 [(0, .ref g0)] [] [AI cy 107 g0 q])) (fun z x h k1 k2 => b_X8_clear_B2 X hr z h (fun s' hs => k1 s' hs) (fun e' he => k2 e' he)) n z q hf K2
def f_X8_clear (w0 : Fn) : Option (Fn) :=
  (itl (f_X8_clear_B2) FU ((0 : Int32), w0)).bind (fun q832 => some (upd (upd (upd q832 (0 : Int32).toNatClampNeg (9 : Int32)) (2 : Int32).toNatClampNeg (10 : Int32)) (3 : Int32).toNatClampNeg (10 : Int32)))
set_option maxRecDepth 100000 in
set_option maxHeartbeats 4000000 in
theorem c_X8_clear (l : Launch) (D : va_G) (cy : Nat → ClassId) (ad : (Nat → Nat) × (Nat → Nat)) (g0 : Nat) (w0 : Fn) {q : Fn} (hf : f_X8_clear w0 = some q) : CM l yX8_clear cX8_clear 2 none rmX8_clear D cy ad [.ref g0] [AI cy 107 g0 w0] none [AI cy 107 g0 q] := by
  refine cm_of (lv0 := [(0, .ref g0)]) (by decide) (Nat.le_of_ble_eq_true rfl) rfl ?_
  intro p e s m args below meth c A X hr hn
  have X : gK p s m args meth c A D cy ad cX8_clear 2 RX8 := X
  unfold f_X8_clear at hf
  refine g_iconst X (0 : Int32) dX8_clear_0 (by decide) ?_
  refine g_istore_n (lv' := [(0, .ref g0), (1, .int (0 : Int32))]) X dX8_clear_1 [1, 0] rfl (Nat.le_of_ble_eq_true rfl) rfl ?_
  obtain ⟨q832, hq832, hf⟩ := obind hf
  refine w_X8_clear_B2 X hr hq832 ?_
  refine g_aload_n X dX8_clear_18 0 rfl rfl ?_
  refine g_iconst X (0 : Int32) dX8_clear_19 (by decide) ?_
  refine g_bipush X (9 : Int32) dX8_clear_20 (by decide) ?_
  refine g_iastore (gs' := [AI cy 107 g0 (upd q832 (0 : Int32).toNatClampNeg (9 : Int32))]) X dX8_clear_22 0 0 rfl rfl (by decide) rfl ?_
  refine g_aload_n X dX8_clear_23 0 rfl rfl ?_
  refine g_iconst X (2 : Int32) dX8_clear_24 (by decide) ?_
  refine g_bipush X (10 : Int32) dX8_clear_25 (by decide) ?_
  refine g_iastore (gs' := [AI cy 107 g0 (upd (upd q832 (0 : Int32).toNatClampNeg (9 : Int32)) (2 : Int32).toNatClampNeg (10 : Int32))]) X dX8_clear_27 0 0 rfl rfl (by decide) rfl ?_
  refine g_aload_n X dX8_clear_28 0 rfl rfl ?_
  refine g_iconst X (3 : Int32) dX8_clear_29 (by decide) ?_
  refine g_bipush X (10 : Int32) dX8_clear_30 (by decide) ?_
  refine g_iastore (gs' := [AI cy 107 g0 (upd (upd (upd q832 (0 : Int32).toNatClampNeg (9 : Int32)) (2 : Int32).toNatClampNeg (10 : Int32)) (3 : Int32).toNatClampNeg (10 : Int32))]) X dX8_clear_32 0 0 rfl rfl (by decide) rfl ?_
  have hf := Option.some.inj hf
  subst hf
  exact g_vret X hr dX8_clear_33
abbrev rmX8_thrown : Room := ({ frames := 0, cells := 0, slots := 0, locals := 0 } : Room)
def f_X8_thrown (v0 : MOv) : Option (Int32) :=
  some v0.1
set_option maxRecDepth 100000 in
set_option maxHeartbeats 4000000 in
theorem c_X8_thrown (l : Launch) (D : va_G) (cy : Nat → ClassId) (ad : (Nat → Nat) × (Nat → Nat)) (h0 : Nat) (h1 : Nat) (h2 : Nat) (h3 : Nat) (h4 : Nat) (h5 : Nat) (h6 : Nat) (h7 : Nat) (h8 : Nat) (v0 : MOv) {q : Int32} (hf : f_X8_thrown v0 = some q) : CM l yX8_thrown cX8_thrown 1 (some .int) rmX8_thrown D cy ad [.ref h0] [MO h0 h1 h2 h3 h4 h5 h6 h7 h8 v0] (some (.int q)) [MO h0 h1 h2 h3 h4 h5 h6 h7 h8 v0] := by
  refine cm_of (lv0 := [(0, .ref h0)]) (by decide) (Nat.le_of_ble_eq_true rfl) rfl ?_
  intro p e s m args below meth c A X hr hn
  have X : gK p s m args meth c A D cy ad cX8_thrown 1 RX8 := X
  unfold f_X8_thrown at hf
  refine g_aload_n X dX8_thrown_0 0 rfl rfl ?_
  refine g_get X dX8_thrown_1 ck_X8 0 0 0 rfl rfl (Nat.le_of_ble_eq_true rfl) lkf_X8_39 rfl ?_
  have hf := Option.some.inj hf
  subst hf
  exact g_iret X hr dX8_thrown_4
abbrev rmX8_refused : Room := ({ frames := 0, cells := 0, slots := 0, locals := 0 } : Room)
def f_X8_refused (v0 : MOv) (p1 : Int32) : Option (Bool × MOv) :=
  if p1 ≤ 0 then some (false, (p1, v0.2.1, v0.2.2.1, v0.2.2.2.1, v0.2.2.2.2.1, v0.2.2.2.2.2)) else some (true, (p1, v0.2.1, v0.2.2.1, v0.2.2.2.1, v0.2.2.2.2.1, v0.2.2.2.2.2))
set_option maxRecDepth 100000 in
set_option maxHeartbeats 4000000 in
theorem c_X8_refused (l : Launch) (D : va_G) (cy : Nat → ClassId) (ad : (Nat → Nat) × (Nat → Nat)) (h0 : Nat) (h1 : Nat) (h2 : Nat) (h3 : Nat) (h4 : Nat) (h5 : Nat) (h6 : Nat) (h7 : Nat) (h8 : Nat) (v0 : MOv) (p1 : Int32) {q : Bool × MOv} (hf : f_X8_refused v0 p1 = some q) : CM l yX8_refused cX8_refused 2 (some .boolean) rmX8_refused D cy ad [.ref h0, .int p1] [MO h0 h1 h2 h3 h4 h5 h6 h7 h8 v0] (some (.int (b2i q.1))) [MO h0 h1 h2 h3 h4 h5 h6 h7 h8 q.2] := by
  refine cm_of (lv0 := [(0, .ref h0), (1, .int p1)]) (by decide) (Nat.le_of_ble_eq_true rfl) rfl ?_
  intro p e s m args below meth c A X hr hn
  have X : gK p s m args meth c A D cy ad cX8_refused 2 RX8 := X
  unfold f_X8_refused at hf
  refine g_aload_n X dX8_refused_0 0 rfl rfl ?_
  refine g_iload_n X dX8_refused_1 1 rfl rfl ?_
  refine g_put (gs' := [MO h0 h1 h2 h3 h4 h5 h6 h7 h8 (p1, v0.2.1, v0.2.2.1, v0.2.2.2.1, v0.2.2.2.2.1, v0.2.2.2.2.2)]) X dX8_refused_2 ck_X8 ct_X8 0 0 0 rfl rfl (Nat.le_of_ble_eq_true rfl) lkf_X8_39 rfl rfl rfl (Nat.le_of_ble_eq_true rfl) rfl ?_
  refine g_iload_n X dX8_refused_5 1 rfl rfl ?_
  refine g_if_le X 13 dX8_refused_6 (by decide) (fun c833 => ?_) (fun c833 => ?_)
  · have hf := opos c833 hf
    refine g_iconst X (0 : Int32) dX8_refused_13 (by decide) ?_
    have hf := Option.some.inj hf
    subst hf
    exact g_zret (b := false) X hr dX8_refused_14
  · have hf := oneg c833 hf
    refine g_iconst X (1 : Int32) dX8_refused_9 (by decide) ?_
    refine g_goto X 14 dX8_refused_10 (by decide) ?_
    have hf := Option.some.inj hf
    subst hf
    exact g_zret (b := true) X hr dX8_refused_14
abbrev rmX8_in : Room := ({ frames := 0, cells := 0, slots := 0, locals := 0 } : Room)
def f_X8_in (p0 : Int64) (p1 : Int64) (p2 : Int64) : Option (Bool) :=
  if (lg_cmp p0 p1) < 0 then some false else if 0 < (lg_cmp p0 p2) then some false else some true
set_option maxRecDepth 100000 in
set_option maxHeartbeats 4000000 in
theorem c_X8_in (l : Launch) (D : va_G) (cy : Nat → ClassId) (ad : (Nat → Nat) × (Nat → Nat)) (p0 : Int64) (p1 : Int64) (p2 : Int64) {q : Bool} (hf : f_X8_in p0 p1 p2 = some q) : CM l yX8_in cX8_in 6 (some .boolean) rmX8_in D cy ad [.long p0, .long p1, .long p2] [] (some (.int (b2i q))) [] := by
  refine cm_of (lv0 := [(0, .long p0), (2, .long p1), (4, .long p2)]) (by decide) (Nat.le_of_ble_eq_true rfl) rfl ?_
  intro p e s m args below meth c A X hr hn
  have X : gK p s m args meth c A D cy ad cX8_in 6 RX8 := X
  unfold f_X8_in at hf
  refine g_lload_n X dX8_in_0 0 rfl rfl ?_
  refine g_lload_n X dX8_in_1 1 rfl rfl ?_
  refine g_lcmp X dX8_in_2 ?_
  refine g_if_lt X 17 dX8_in_3 (by decide) (fun c835 => ?_) (fun c835 => ?_)
  · have hf := opos c835 hf
    refine g_iconst X (0 : Int32) dX8_in_17 (by decide) ?_
    have hf := Option.some.inj hf
    subst hf
    exact g_zret (b := false) X hr dX8_in_18
  · have hf := oneg c835 hf
    refine g_lload_n X dX8_in_6 0 rfl rfl ?_
    refine g_lload X dX8_in_7 2 rfl ?_
    refine g_lcmp X dX8_in_9 ?_
    refine g_if_gt X 17 dX8_in_10 (by decide) (fun c834 => ?_) (fun c834 => ?_)
    · have hf := opos c834 hf
      refine g_iconst X (0 : Int32) dX8_in_17 (by decide) ?_
      have hf := Option.some.inj hf
      subst hf
      exact g_zret (b := false) X hr dX8_in_18
    · have hf := oneg c834 hf
      refine g_iconst X (1 : Int32) dX8_in_13 (by decide) ?_
      refine g_goto X 18 dX8_in_14 (by decide) ?_
      have hf := Option.some.inj hf
      subst hf
      exact g_zret (b := true) X hr dX8_in_18
abbrev rmX8_copyState : Room := ({ frames := 0, cells := 0, slots := 0, locals := 0 } : Room)
def f_X8_copyState_B3 (n0 : Nat) (n1 : Nat) (w0 : Fn) (x1 : Int32) (x3 : Int32) (z : Int32 × Fn) : Option ((Int32 × Fn) ⊕ ((Fn))) :=
  if (107 : Int32) ≤ z.1 then some (.inr ((z.2))) else if (x1 + z.1) < 0 ∨ n0 ≤ (x1 + z.1).toNatClampNeg then none else if (x3 + z.1) < 0 ∨ n1 ≤ (x3 + z.1).toNatClampNeg then none else some (.inl ((z.1 + (1 : Int32)), (upd z.2 (x3 + z.1).toNatClampNeg (w0 (x1 + z.1).toNatClampNeg))))
set_option maxRecDepth 100000 in
set_option maxHeartbeats 4000000 in
theorem b_X8_copyState_B3 {p : Program} {l : Launch} {e : Env} {s : State} {m : MethodId} {args : Array Value} {below : List Frame} {meth : Method} {c : Code} {A : Nat → Prop} {D : va_G} {cy : Nat → ClassId} {ad : (Nat → Nat) × (Nat → Nat)} {Q : State → Prop} (X : gK p s m args meth c A D cy ad cX8_copyState 5 RX8) (hr : meth.sig.returnType = none) {g0 g1 : Nat} (n0 : Nat) (n1 : Nat) (w0 : Fn) (x1 : Int32) (x3 : Int32) (z : Int32 × Fn) {q : (Int32 × Fn) ⊕ ((Fn))} (hf : f_X8_copyState_B3 n0 n1 w0 x1 x3 z = some q) (K1 : ∀ s' : Int32 × Fn, q = .inl s' → GW p l e rmX8_copyState s m args below meth c A D 5 0 0 Q 3 [(0, .ref g0), (1, .int x1), (2, .ref g1), (3, .int x3), (4, .int s'.1)] [] [AI cy n0 g0 w0, AI cy n1 g1 s'.2]) (K2 : ∀ e' : Fn, q = .inr (e') → GW p l e rmX8_copyState s m args below meth c A D 5 0 0 Q 28 [] [] [AI cy n0 g0 w0, AI cy n1 g1 e']) : GW p l e rmX8_copyState s m args below meth c A D 5 0 0 Q 3 [(0, .ref g0), (1, .int x1), (2, .ref g1), (3, .int x3), (4, .int z.1)] [] [AI cy n0 g0 w0, AI cy n1 g1 z.2] := by
  unfold f_X8_copyState_B3 at hf
  refine g_iload X dX8_copyState_3 4 rfl ?_
  refine g_bipush X (107 : Int32) dX8_copyState_5 (by decide) ?_
  refine g_icmp_ge X 28 dX8_copyState_7 (by decide) (fun c842 => ?_) (fun c842 => ?_)
  · have hf := opos c842 hf
    refine g_sub [] (lv' := []) rfl ?_
    exact K2 (z.2) (Option.some.inj hf).symm
  · have hf := oneg c842 hf
    refine g_aload_n X dX8_copyState_10 2 rfl rfl ?_
    refine g_iload_n X dX8_copyState_11 3 rfl rfl ?_
    refine g_iload X dX8_copyState_12 4 rfl ?_
    refine g_iadd X dX8_copyState_14 ?_
    refine g_aload_n X dX8_copyState_15 0 rfl rfl ?_
    refine g_iload_n X dX8_copyState_16 1 rfl rfl ?_
    refine g_iload X dX8_copyState_17 4 rfl ?_
    refine g_iadd X dX8_copyState_19 ?_
    obtain ⟨n840, hf⟩ := oguard hf
    refine g_iaload X dX8_copyState_20 0 0 rfl rfl n840 ?_
    obtain ⟨n841, hf⟩ := oguard hf
    refine g_iastore (gs' := [AI cy n0 g0 w0, AI cy n1 g1 (upd z.2 (x3 + z.1).toNatClampNeg (w0 (x1 + z.1).toNatClampNeg))]) X dX8_copyState_21 1 0 rfl rfl n841 rfl ?_
    refine g_iinc (lv' := [(0, .ref g0), (1, .int x1), (2, .ref g1), (3, .int x3), (4, .int (z.1 + (1 : Int32)))]) (v := (1 : Int32)) X dX8_copyState_22 4 rfl (by decide) [1, 2, 3, 4, 0] (Nat.le_of_ble_eq_true rfl) rfl ?_
    refine g_goto X 3 dX8_copyState_25 (by decide) ?_
    exact K1 ((z.1 + (1 : Int32)), (upd z.2 (x3 + z.1).toNatClampNeg (w0 (x1 + z.1).toNatClampNeg))) (Option.some.inj hf).symm
set_option maxRecDepth 100000 in
set_option maxHeartbeats 4000000 in
theorem w_X8_copyState_B3 {p : Program} {l : Launch} {e : Env} {s : State} {m : MethodId} {args : Array Value} {below : List Frame} {meth : Method} {c : Code} {A : Nat → Prop} {D : va_G} {cy : Nat → ClassId} {ad : (Nat → Nat) × (Nat → Nat)} {Q : State → Prop} (X : gK p s m args meth c A D cy ad cX8_copyState 5 RX8) (hr : meth.sig.returnType = none) {g0 g1 : Nat} (n0 : Nat) (n1 : Nat) (w0 : Fn) (x1 : Int32) (x3 : Int32) {n : Nat} {z : Int32 × Fn} {q : (Fn)} (hf : itl (f_X8_copyState_B3 n0 n1 w0 x1 x3) n z = some q) (K2 : GW p l e rmX8_copyState s m args below meth c A D 5 0 0 Q 28 [] [] [AI cy n0 g0 w0, AI cy n1 g1 q]) : GW p l e rmX8_copyState s m args below meth c A D 5 0 0 Q 3 [(0, .ref g0), (1, .int x1), (2, .ref g1), (3, .int x3), (4, .int z.1)] [] [AI cy n0 g0 w0, AI cy n1 g1 z.2] :=
  itl_ind (f := f_X8_copyState_B3 n0 n1 w0 x1 x3) (I := fun z => GW p l e rmX8_copyState s m args below meth c A D 5 0 0 Q 3 [(0, .ref g0), (1, .int x1), (2, .ref g1), (3, .int x3), (4, .int z.1)] [] [AI cy n0 g0 w0, AI cy n1 g1 z.2]) (J := (fun q => GW p l e rmX8_copyState s m args below meth c A D 5 0 0 Q 28 [] [] [AI cy n0 g0 w0, AI cy n1 g1 q])) (fun z x h k1 k2 => b_X8_copyState_B3 X hr n0 n1 w0 x1 x3 z h (fun s' hs => k1 s' hs) (fun e' he => k2 e' he)) n z q hf K2
def f_X8_copyState (n0 : Nat) (n1 : Nat) (w0 : Fn) (w1 : Fn) (p1 : Int32) (p3 : Int32) : Option (Fn) :=
  (itl (f_X8_copyState_B3 n0 n1 w0 p1 p3) FU ((0 : Int32), w1)).bind (fun q843 => some q843)
set_option maxRecDepth 100000 in
set_option maxHeartbeats 4000000 in
theorem c_X8_copyState (l : Launch) (D : va_G) (cy : Nat → ClassId) (ad : (Nat → Nat) × (Nat → Nat)) (g0 : Nat) (g1 : Nat) (n0 : Nat) (n1 : Nat) (w0 : Fn) (w1 : Fn) (p1 : Int32) (p3 : Int32) {q : Fn} (hf : f_X8_copyState n0 n1 w0 w1 p1 p3 = some q) : CM l yX8_copyState cX8_copyState 5 none rmX8_copyState D cy ad [.ref g0, .int p1, .ref g1, .int p3] [AI cy n0 g0 w0, AI cy n1 g1 w1] none [AI cy n0 g0 w0, AI cy n1 g1 q] := by
  refine cm_of (lv0 := [(0, .ref g0), (1, .int p1), (2, .ref g1), (3, .int p3)]) (by decide) (Nat.le_of_ble_eq_true rfl) rfl ?_
  intro p e s m args below meth c A X hr hn
  have X : gK p s m args meth c A D cy ad cX8_copyState 5 RX8 := X
  unfold f_X8_copyState at hf
  refine g_iconst X (0 : Int32) dX8_copyState_0 (by decide) ?_
  refine g_istore (lv' := [(0, .ref g0), (1, .int p1), (2, .ref g1), (3, .int p3), (4, .int (0 : Int32))]) X dX8_copyState_1 [1, 2, 3, 4, 0] (Nat.le_of_ble_eq_true rfl) rfl ?_
  obtain ⟨q843, hq843, hf⟩ := obind hf
  refine w_X8_copyState_B3 X hr n0 n1 w0 p1 p3 hq843 ?_
  have hf := Option.some.inj hf
  subst hf
  exact g_vret X hr dX8_copyState_28
abbrev rmX8_allOf : Room := ({ frames := 0, cells := 0, slots := 0, locals := 0 } : Room)
def f_X8_allOf (p0 : Int32) : Option (Int32) :=
  some ((3 : Int32) * (((2 : Int32) * p0) + (1 : Int32)))
set_option maxRecDepth 100000 in
set_option maxHeartbeats 4000000 in
theorem c_X8_allOf (l : Launch) (D : va_G) (cy : Nat → ClassId) (ad : (Nat → Nat) × (Nat → Nat)) (p0 : Int32) {q : Int32} (hf : f_X8_allOf p0 = some q) : CM l yX8_allOf cX8_allOf 1 (some .int) rmX8_allOf D cy ad [.int p0] [] (some (.int q)) [] := by
  refine cm_of (lv0 := [(0, .int p0)]) (by decide) (Nat.le_of_ble_eq_true rfl) rfl ?_
  intro p e s m args below meth c A X hr hn
  have X : gK p s m args meth c A D cy ad cX8_allOf 1 RX8 := X
  unfold f_X8_allOf at hf
  refine g_iconst X (3 : Int32) dX8_allOf_0 (by decide) ?_
  refine g_iconst X (2 : Int32) dX8_allOf_1 (by decide) ?_
  refine g_iload_n X dX8_allOf_2 0 rfl rfl ?_
  refine g_imul X dX8_allOf_3 ?_
  refine g_iconst X (1 : Int32) dX8_allOf_4 (by decide) ?_
  refine g_iadd X dX8_allOf_5 ?_
  refine g_imul X dX8_allOf_6 ?_
  have hf := Option.some.inj hf
  subst hf
  exact g_iret X hr dX8_allOf_7
abbrev rmX8_isCoin : Room := ({ frames := 1, cells := 0, slots := 0, locals := 25 } : Room)
def f_X8_isCoin (w0 : Fn) (p1 : Int32) : Option (Bool) :=
  (f_X8_in (p1.toInt64) (0 : Int64) (((w0 (0 : Int32).toNatClampNeg) - (1 : Int32)).toInt64)).bind (fun q846 => some q846)
set_option maxRecDepth 100000 in
set_option maxHeartbeats 4000000 in
theorem c_X8_isCoin (l : Launch) (D : va_G) (cy : Nat → ClassId) (ad : (Nat → Nat) × (Nat → Nat)) (g0 : Nat) (w0 : Fn) (p1 : Int32) {q : Bool} (hf : f_X8_isCoin w0 p1 = some q) : CM l yX8_isCoin cX8_isCoin 2 (some .boolean) rmX8_isCoin D cy ad [.ref g0, .int p1] [AI cy 107 g0 w0] (some (.int (b2i q))) [AI cy 107 g0 w0] := by
  refine cm_of (lv0 := [(0, .ref g0), (1, .int p1)]) (by decide) (Nat.le_of_ble_eq_true rfl) rfl ?_
  intro p e s m args below meth c A X hr hn
  have X : gK p s m args meth c A D cy ad cX8_isCoin 2 RX8 := X
  unfold f_X8_isCoin at hf
  refine g_iload_n X dX8_isCoin_0 1 rfl rfl ?_
  refine g_i2l X dX8_isCoin_1 ?_
  refine g_lconst X (0 : Int64) dX8_isCoin_2 (by decide) ?_
  refine g_aload_n X dX8_isCoin_3 0 rfl rfl ?_
  refine g_iconst X (0 : Int32) dX8_isCoin_4 (by decide) ?_
  refine g_iaload X dX8_isCoin_5 0 0 rfl rfl (by decide) ?_
  refine g_iconst X (1 : Int32) dX8_isCoin_6 (by decide) ?_
  refine g_isub X dX8_isCoin_7 ?_
  refine g_i2l X dX8_isCoin_8 ?_
  obtain ⟨q846, hq846, hf⟩ := obind hf
  refine g_callS (gs' := [AI cy 107 g0 w0]) (rest := []) X dX8_isCoin_9 (c_X8_in l D cy ad (p1.toInt64) (0 : Int64) (((w0 (0 : Int32).toNatClampNeg) - (1 : Int32)).toInt64) hq846) mf_X8_in ms_X8_in lkm_X8_43 ⟨(Nat.le_of_ble_eq_true rfl), (Nat.le_of_ble_eq_true rfl), (Nat.le_of_ble_eq_true rfl), (Nat.le_of_ble_eq_true rfl)⟩ [0] _ (by decide : [0].Perm (List.range 1)) rfl (by decide : [0].Perm (List.range 1)) rfl (Nat.le_of_ble_eq_true rfl) rfl ?_
  have hf := Option.some.inj hf
  subst hf
  exact g_zret (b := q846) X hr dX8_isCoin_12
abbrev rmX8_isCoins : Room := ({ frames := 1, cells := 0, slots := 0, locals := 25 } : Room)
def f_X8_isCoins (p0 : Int32) : Option (Bool) :=
  (f_X8_in (p0.toInt64) (3 : Int64) (12 : Int64)).bind (fun q849 => some q849)
set_option maxRecDepth 100000 in
set_option maxHeartbeats 4000000 in
theorem c_X8_isCoins (l : Launch) (D : va_G) (cy : Nat → ClassId) (ad : (Nat → Nat) × (Nat → Nat)) (p0 : Int32) {q : Bool} (hf : f_X8_isCoins p0 = some q) : CM l yX8_isCoins cX8_isCoins 1 (some .boolean) rmX8_isCoins D cy ad [.int p0] [] (some (.int (b2i q))) [] := by
  refine cm_of (lv0 := [(0, .int p0)]) (by decide) (Nat.le_of_ble_eq_true rfl) rfl ?_
  intro p e s m args below meth c A X hr hn
  have X : gK p s m args meth c A D cy ad cX8_isCoins 1 RX8 := X
  unfold f_X8_isCoins at hf
  refine g_iload_n X dX8_isCoins_0 0 rfl rfl ?_
  refine g_i2l X dX8_isCoins_1 ?_
  refine g_ldc2 X lkl_X8_47 dX8_isCoins_2 ?_
  refine g_ldc2 X lkl_X8_49 dX8_isCoins_5 ?_
  obtain ⟨q849, hq849, hf⟩ := obind hf
  refine g_callS (gs' := []) (rest := []) X dX8_isCoins_8 (c_X8_in l D cy ad (p0.toInt64) (3 : Int64) (12 : Int64) hq849) mf_X8_in ms_X8_in lkm_X8_43 ⟨(Nat.le_of_ble_eq_true rfl), (Nat.le_of_ble_eq_true rfl), (Nat.le_of_ble_eq_true rfl), (Nat.le_of_ble_eq_true rfl)⟩ [] _ (List.Perm.refl _ : ([] : List Nat).Perm (List.range 0)) rfl (List.Perm.refl _ : ([] : List Nat).Perm (List.range 0)) rfl (Nat.le_of_ble_eq_true rfl) rfl ?_
  have hf := Option.some.inj hf
  subst hf
  exact g_zret (b := q849) X hr dX8_isCoins_11
abbrev rmX8_isArms : Room := ({ frames := 1, cells := 0, slots := 0, locals := 25 } : Room)
def f_X8_isArms (p0 : Int32) (p1 : Int32) : Option (Bool) :=
  (f_X8_in (p0.toInt64) (1 : Int64) (20 : Int64)).bind (fun q854 => if (b2i q854) = 0 then some false else (f_X8_in (p1.toInt64) (1 : Int64) (20 : Int64)).bind (fun q855 => if (b2i q855) = 0 then some false else some true))
set_option maxRecDepth 100000 in
set_option maxHeartbeats 4000000 in
theorem c_X8_isArms (l : Launch) (D : va_G) (cy : Nat → ClassId) (ad : (Nat → Nat) × (Nat → Nat)) (p0 : Int32) (p1 : Int32) {q : Bool} (hf : f_X8_isArms p0 p1 = some q) : CM l yX8_isArms cX8_isArms 2 (some .boolean) rmX8_isArms D cy ad [.int p0, .int p1] [] (some (.int (b2i q))) [] := by
  refine cm_of (lv0 := [(0, .int p0), (1, .int p1)]) (by decide) (Nat.le_of_ble_eq_true rfl) rfl ?_
  intro p e s m args below meth c A X hr hn
  have X : gK p s m args meth c A D cy ad cX8_isArms 2 RX8 := X
  unfold f_X8_isArms at hf
  refine g_iload_n X dX8_isArms_0 0 rfl rfl ?_
  refine g_i2l X dX8_isArms_1 ?_
  refine g_lconst X (1 : Int64) dX8_isArms_2 (by decide) ?_
  refine g_ldc2 X lkl_X8_51 dX8_isArms_3 ?_
  obtain ⟨q854, hq854, hf⟩ := obind hf
  refine g_callS (gs' := []) (rest := []) X dX8_isArms_6 (c_X8_in l D cy ad (p0.toInt64) (1 : Int64) (20 : Int64) hq854) mf_X8_in ms_X8_in lkm_X8_43 ⟨(Nat.le_of_ble_eq_true rfl), (Nat.le_of_ble_eq_true rfl), (Nat.le_of_ble_eq_true rfl), (Nat.le_of_ble_eq_true rfl)⟩ [] _ (List.Perm.refl _ : ([] : List Nat).Perm (List.range 0)) rfl (List.Perm.refl _ : ([] : List Nat).Perm (List.range 0)) rfl (Nat.le_of_ble_eq_true rfl) rfl ?_
  refine g_if_eq X 28 dX8_isArms_9 (by decide) (fun c857 => ?_) (fun c857 => ?_)
  · have hf := opos c857 hf
    refine g_iconst X (0 : Int32) dX8_isArms_28 (by decide) ?_
    have hf := Option.some.inj hf
    subst hf
    exact g_zret (b := false) X hr dX8_isArms_29
  · have hf := oneg c857 hf
    refine g_iload_n X dX8_isArms_12 1 rfl rfl ?_
    refine g_i2l X dX8_isArms_13 ?_
    refine g_lconst X (1 : Int64) dX8_isArms_14 (by decide) ?_
    refine g_ldc2 X lkl_X8_51 dX8_isArms_15 ?_
    obtain ⟨q855, hq855, hf⟩ := obind hf
    refine g_callS (gs' := []) (rest := []) X dX8_isArms_18 (c_X8_in l D cy ad (p1.toInt64) (1 : Int64) (20 : Int64) hq855) mf_X8_in ms_X8_in lkm_X8_43 ⟨(Nat.le_of_ble_eq_true rfl), (Nat.le_of_ble_eq_true rfl), (Nat.le_of_ble_eq_true rfl), (Nat.le_of_ble_eq_true rfl)⟩ [] _ (List.Perm.refl _ : ([] : List Nat).Perm (List.range 0)) rfl (List.Perm.refl _ : ([] : List Nat).Perm (List.range 0)) rfl (Nat.le_of_ble_eq_true rfl) rfl ?_
    refine g_if_eq X 28 dX8_isArms_21 (by decide) (fun c856 => ?_) (fun c856 => ?_)
    · have hf := opos c856 hf
      refine g_iconst X (0 : Int32) dX8_isArms_28 (by decide) ?_
      have hf := Option.some.inj hf
      subst hf
      exact g_zret (b := false) X hr dX8_isArms_29
    · have hf := oneg c856 hf
      refine g_iconst X (1 : Int32) dX8_isArms_24 (by decide) ?_
      refine g_goto X 29 dX8_isArms_25 (by decide) ?_
      have hf := Option.some.inj hf
      subst hf
      exact g_zret (b := true) X hr dX8_isArms_29
abbrev rmX8_isSet : Room := ({ frames := 1, cells := 0, slots := 0, locals := 25 } : Room)
def f_X8_isSet (w0 : Fn) (p1 : Int32) : Option (Bool) :=
  (f_X8_in (p1.toInt64) (0 : Int64) ((((1 : Int32) <<< ((w0 (0 : Int32).toNatClampNeg) &&& 31)) - (1 : Int32)).toInt64)).bind (fun q860 => some q860)
set_option maxRecDepth 100000 in
set_option maxHeartbeats 4000000 in
theorem c_X8_isSet (l : Launch) (D : va_G) (cy : Nat → ClassId) (ad : (Nat → Nat) × (Nat → Nat)) (g0 : Nat) (w0 : Fn) (p1 : Int32) {q : Bool} (hf : f_X8_isSet w0 p1 = some q) : CM l yX8_isSet cX8_isSet 2 (some .boolean) rmX8_isSet D cy ad [.ref g0, .int p1] [AI cy 107 g0 w0] (some (.int (b2i q))) [AI cy 107 g0 w0] := by
  refine cm_of (lv0 := [(0, .ref g0), (1, .int p1)]) (by decide) (Nat.le_of_ble_eq_true rfl) rfl ?_
  intro p e s m args below meth c A X hr hn
  have X : gK p s m args meth c A D cy ad cX8_isSet 2 RX8 := X
  unfold f_X8_isSet at hf
  refine g_iload_n X dX8_isSet_0 1 rfl rfl ?_
  refine g_i2l X dX8_isSet_1 ?_
  refine g_lconst X (0 : Int64) dX8_isSet_2 (by decide) ?_
  refine g_iconst X (1 : Int32) dX8_isSet_3 (by decide) ?_
  refine g_aload_n X dX8_isSet_4 0 rfl rfl ?_
  refine g_iconst X (0 : Int32) dX8_isSet_5 (by decide) ?_
  refine g_iaload X dX8_isSet_6 0 0 rfl rfl (by decide) ?_
  refine g_ishl X dX8_isSet_7 ?_
  refine g_iconst X (1 : Int32) dX8_isSet_8 (by decide) ?_
  refine g_isub X dX8_isSet_9 ?_
  refine g_i2l X dX8_isSet_10 ?_
  obtain ⟨q860, hq860, hf⟩ := obind hf
  refine g_callS (gs' := [AI cy 107 g0 w0]) (rest := []) X dX8_isSet_11 (c_X8_in l D cy ad (p1.toInt64) (0 : Int64) ((((1 : Int32) <<< ((w0 (0 : Int32).toNatClampNeg) &&& 31)) - (1 : Int32)).toInt64) hq860) mf_X8_in ms_X8_in lkm_X8_43 ⟨(Nat.le_of_ble_eq_true rfl), (Nat.le_of_ble_eq_true rfl), (Nat.le_of_ble_eq_true rfl), (Nat.le_of_ble_eq_true rfl)⟩ [0] _ (by decide : [0].Perm (List.range 1)) rfl (by decide : [0].Perm (List.range 1)) rfl (Nat.le_of_ble_eq_true rfl) rfl ?_
  have hf := Option.some.inj hf
  subst hf
  exact g_zret (b := q860) X hr dX8_isSet_14
abbrev rmX8_isWeighing : Room := ({ frames := 2, cells := 0, slots := 0, locals := 46 } : Room)
def f_X8_isWeighing (w0 : Fn) (p1 : Int32) (p2 : Int32) : Option (Bool) :=
  (f_X8_isSet w0 p1).bind (fun q865 => if (b2i q865) = 0 then some false else (f_X8_isSet w0 p2).bind (fun q866 => if (b2i q866) = 0 then some false else if (p1 &&& p2) = 0 then if (p1 ||| p2) ≤ 0 then some false else some true else some false))
set_option maxRecDepth 100000 in
set_option maxHeartbeats 4000000 in
theorem c_X8_isWeighing (l : Launch) (D : va_G) (cy : Nat → ClassId) (ad : (Nat → Nat) × (Nat → Nat)) (g0 : Nat) (w0 : Fn) (p1 : Int32) (p2 : Int32) {q : Bool} (hf : f_X8_isWeighing w0 p1 p2 = some q) : CM l yX8_isWeighing cX8_isWeighing 3 (some .boolean) rmX8_isWeighing D cy ad [.ref g0, .int p1, .int p2] [AI cy 107 g0 w0] (some (.int (b2i q))) [AI cy 107 g0 w0] := by
  refine cm_of (lv0 := [(0, .ref g0), (1, .int p1), (2, .int p2)]) (by decide) (Nat.le_of_ble_eq_true rfl) rfl ?_
  intro p e s m args below meth c A X hr hn
  have X : gK p s m args meth c A D cy ad cX8_isWeighing 3 RX8 := X
  unfold f_X8_isWeighing at hf
  refine g_aload_n X dX8_isWeighing_0 0 rfl rfl ?_
  refine g_iload_n X dX8_isWeighing_1 1 rfl rfl ?_
  obtain ⟨q865, hq865, hf⟩ := obind hf
  refine g_callS (gs' := [AI cy 107 g0 w0]) (rest := []) X dX8_isWeighing_2 (c_X8_isSet l D cy ad g0 w0 p1 hq865) mf_X8_isSet ms_X8_isSet lkm_X8_53 ⟨(Nat.le_of_ble_eq_true rfl), (Nat.le_of_ble_eq_true rfl), (Nat.le_of_ble_eq_true rfl), (Nat.le_of_ble_eq_true rfl)⟩ [0] _ (by decide : [0].Perm (List.range 1)) rfl (by decide : [0].Perm (List.range 1)) rfl (Nat.le_of_ble_eq_true rfl) rfl ?_
  refine g_if_eq X 32 dX8_isWeighing_5 (by decide) (fun c870 => ?_) (fun c870 => ?_)
  · have hf := opos c870 hf
    refine g_iconst X (0 : Int32) dX8_isWeighing_32 (by decide) ?_
    have hf := Option.some.inj hf
    subst hf
    exact g_zret (b := false) X hr dX8_isWeighing_33
  · have hf := oneg c870 hf
    refine g_aload_n X dX8_isWeighing_8 0 rfl rfl ?_
    refine g_iload_n X dX8_isWeighing_9 2 rfl rfl ?_
    obtain ⟨q866, hq866, hf⟩ := obind hf
    refine g_callS (gs' := [AI cy 107 g0 w0]) (rest := []) X dX8_isWeighing_10 (c_X8_isSet l D cy ad g0 w0 p2 hq866) mf_X8_isSet ms_X8_isSet lkm_X8_53 ⟨(Nat.le_of_ble_eq_true rfl), (Nat.le_of_ble_eq_true rfl), (Nat.le_of_ble_eq_true rfl), (Nat.le_of_ble_eq_true rfl)⟩ [0] _ (by decide : [0].Perm (List.range 1)) rfl (by decide : [0].Perm (List.range 1)) rfl (Nat.le_of_ble_eq_true rfl) rfl ?_
    refine g_if_eq X 32 dX8_isWeighing_13 (by decide) (fun c869 => ?_) (fun c869 => ?_)
    · have hf := opos c869 hf
      refine g_iconst X (0 : Int32) dX8_isWeighing_32 (by decide) ?_
      have hf := Option.some.inj hf
      subst hf
      exact g_zret (b := false) X hr dX8_isWeighing_33
    · have hf := oneg c869 hf
      refine g_iload_n X dX8_isWeighing_16 1 rfl rfl ?_
      refine g_iload_n X dX8_isWeighing_17 2 rfl rfl ?_
      refine g_iand X dX8_isWeighing_18 ?_
      refine g_if_ne X 32 dX8_isWeighing_19 (by decide) (fun c868 => ?_) (fun c868 => ?_)
      · have hf := oneg c868 hf
        refine g_iconst X (0 : Int32) dX8_isWeighing_32 (by decide) ?_
        have hf := Option.some.inj hf
        subst hf
        exact g_zret (b := false) X hr dX8_isWeighing_33
      · have hf := opos c868 hf
        refine g_iload_n X dX8_isWeighing_22 1 rfl rfl ?_
        refine g_iload_n X dX8_isWeighing_23 2 rfl rfl ?_
        refine g_ior X dX8_isWeighing_24 ?_
        refine g_if_le X 32 dX8_isWeighing_25 (by decide) (fun c867 => ?_) (fun c867 => ?_)
        · have hf := opos c867 hf
          refine g_iconst X (0 : Int32) dX8_isWeighing_32 (by decide) ?_
          have hf := Option.some.inj hf
          subst hf
          exact g_zret (b := false) X hr dX8_isWeighing_33
        · have hf := oneg c867 hf
          refine g_iconst X (1 : Int32) dX8_isWeighing_28 (by decide) ?_
          refine g_goto X 33 dX8_isWeighing_29 (by decide) ?_
          have hf := Option.some.inj hf
          subst hf
          exact g_zret (b := true) X hr dX8_isWeighing_33
abbrev rmX8_bits : Room := ({ frames := 0, cells := 0, slots := 0, locals := 0 } : Room)
def f_X8_bits_B4 (x0 : Int32) (z : Int32 × Int32) : Option ((Int32 × Int32) ⊕ ((Int32))) :=
  if (12 : Int32) ≤ z.2 then some (.inr ((z.1))) else some (.inl ((z.1 + ((x0 >>> (z.2 &&& 31)) &&& (1 : Int32))), (z.2 + (1 : Int32))))
set_option maxRecDepth 100000 in
set_option maxHeartbeats 4000000 in
theorem b_X8_bits_B4 {p : Program} {l : Launch} {e : Env} {s : State} {m : MethodId} {args : Array Value} {below : List Frame} {meth : Method} {c : Code} {A : Nat → Prop} {D : va_G} {cy : Nat → ClassId} {ad : (Nat → Nat) × (Nat → Nat)} {Q : State → Prop} (X : gK p s m args meth c A D cy ad cX8_bits 3 RX8) (hr : meth.sig.returnType = (some .int)) (x0 : Int32) (z : Int32 × Int32) {q : (Int32 × Int32) ⊕ ((Int32))} (hf : f_X8_bits_B4 x0 z = some q) (K1 : ∀ s' : Int32 × Int32, q = .inl s' → GW p l e rmX8_bits s m args below meth c A D 3 0 0 Q 4 [(0, .int x0), (1, .int s'.1), (2, .int s'.2)] [] []) (K2 : ∀ e' : Int32, q = .inr (e') → GW p l e rmX8_bits s m args below meth c A D 3 0 0 Q 24 [(1, .int e')] [] []) : GW p l e rmX8_bits s m args below meth c A D 3 0 0 Q 4 [(0, .int x0), (1, .int z.1), (2, .int z.2)] [] [] := by
  unfold f_X8_bits_B4 at hf
  refine g_iload_n X dX8_bits_4 2 rfl rfl ?_
  refine g_bipush X (12 : Int32) dX8_bits_5 (by decide) ?_
  refine g_icmp_ge X 24 dX8_bits_7 (by decide) (fun c871 => ?_) (fun c871 => ?_)
  · have hf := opos c871 hf
    refine g_sub [1] (lv' := [(1, .int z.1)]) rfl ?_
    exact K2 (z.1) (Option.some.inj hf).symm
  · have hf := oneg c871 hf
    refine g_iload_n X dX8_bits_10 1 rfl rfl ?_
    refine g_iload_n X dX8_bits_11 0 rfl rfl ?_
    refine g_iload_n X dX8_bits_12 2 rfl rfl ?_
    refine g_ishr X dX8_bits_13 ?_
    refine g_iconst X (1 : Int32) dX8_bits_14 (by decide) ?_
    refine g_iand X dX8_bits_15 ?_
    refine g_iadd X dX8_bits_16 ?_
    refine g_istore_n (lv' := [(0, .int x0), (1, .int (z.1 + ((x0 >>> (z.2 &&& 31)) &&& (1 : Int32)))), (2, .int z.2)]) X dX8_bits_17 [1, 0, 2] rfl (Nat.le_of_ble_eq_true rfl) rfl ?_
    refine g_iinc (lv' := [(0, .int x0), (1, .int (z.1 + ((x0 >>> (z.2 &&& 31)) &&& (1 : Int32)))), (2, .int (z.2 + (1 : Int32)))]) (v := (1 : Int32)) X dX8_bits_18 2 rfl (by decide) [1, 2, 0] (Nat.le_of_ble_eq_true rfl) rfl ?_
    refine g_goto X 4 dX8_bits_21 (by decide) ?_
    exact K1 ((z.1 + ((x0 >>> (z.2 &&& 31)) &&& (1 : Int32))), (z.2 + (1 : Int32))) (Option.some.inj hf).symm
set_option maxRecDepth 100000 in
set_option maxHeartbeats 4000000 in
theorem w_X8_bits_B4 {p : Program} {l : Launch} {e : Env} {s : State} {m : MethodId} {args : Array Value} {below : List Frame} {meth : Method} {c : Code} {A : Nat → Prop} {D : va_G} {cy : Nat → ClassId} {ad : (Nat → Nat) × (Nat → Nat)} {Q : State → Prop} (X : gK p s m args meth c A D cy ad cX8_bits 3 RX8) (hr : meth.sig.returnType = (some .int)) (x0 : Int32) {n : Nat} {z : Int32 × Int32} {q : (Int32)} (hf : itl (f_X8_bits_B4 x0) n z = some q) (K2 : GW p l e rmX8_bits s m args below meth c A D 3 0 0 Q 24 [(1, .int q)] [] []) : GW p l e rmX8_bits s m args below meth c A D 3 0 0 Q 4 [(0, .int x0), (1, .int z.1), (2, .int z.2)] [] [] :=
  itl_ind (f := f_X8_bits_B4 x0) (I := fun z => GW p l e rmX8_bits s m args below meth c A D 3 0 0 Q 4 [(0, .int x0), (1, .int z.1), (2, .int z.2)] [] []) (J := (fun q => GW p l e rmX8_bits s m args below meth c A D 3 0 0 Q 24 [(1, .int q)] [] [])) (fun z x h k1 k2 => b_X8_bits_B4 X hr x0 z h (fun s' hs => k1 s' hs) (fun e' he => k2 e' he)) n z q hf K2
def f_X8_bits (p0 : Int32) : Option (Int32) :=
  (itl (f_X8_bits_B4 p0) FU ((0 : Int32), (0 : Int32))).bind (fun q872 => some q872)
set_option maxRecDepth 100000 in
set_option maxHeartbeats 4000000 in
theorem c_X8_bits (l : Launch) (D : va_G) (cy : Nat → ClassId) (ad : (Nat → Nat) × (Nat → Nat)) (p0 : Int32) {q : Int32} (hf : f_X8_bits p0 = some q) : CM l yX8_bits cX8_bits 3 (some .int) rmX8_bits D cy ad [.int p0] [] (some (.int q)) [] := by
  refine cm_of (lv0 := [(0, .int p0)]) (by decide) (Nat.le_of_ble_eq_true rfl) rfl ?_
  intro p e s m args below meth c A X hr hn
  have X : gK p s m args meth c A D cy ad cX8_bits 3 RX8 := X
  unfold f_X8_bits at hf
  refine g_iconst X (0 : Int32) dX8_bits_0 (by decide) ?_
  refine g_istore_n (lv' := [(0, .int p0), (1, .int (0 : Int32))]) X dX8_bits_1 [1, 0] rfl (Nat.le_of_ble_eq_true rfl) rfl ?_
  refine g_iconst X (0 : Int32) dX8_bits_2 (by decide) ?_
  refine g_istore_n (lv' := [(0, .int p0), (1, .int (0 : Int32)), (2, .int (0 : Int32))]) X dX8_bits_3 [1, 2, 0] rfl (Nat.le_of_ble_eq_true rfl) rfl ?_
  obtain ⟨q872, hq872, hf⟩ := obind hf
  refine w_X8_bits_B4 X hr p0 hq872 ?_
  refine g_iload_n X dX8_bits_24 0 rfl rfl ?_
  have hf := Option.some.inj hf
  subst hf
  exact g_iret X hr dX8_bits_25
abbrev rmX8_weight : Room := ({ frames := 1, cells := 0, slots := 0, locals := 22 } : Room)
def f_X8_weight_b47 (y0 : Int32) (y1 : Int32) : Option (Int32) :=
  some (y1 + y0)
set_option maxRecDepth 100000 in
set_option maxHeartbeats 4000000 in
theorem j_X8_weight_b47 {p : Program} {l : Launch} {e : Env} {s : State} {m : MethodId} {args : Array Value} {below : List Frame} {meth : Method} {c : Code} {A : Nat → Prop} {D : va_G} {cy : Nat → ClassId} {ad : (Nat → Nat) × (Nat → Nat)} (X : gK p s m args meth c A D cy ad cX8_weight 3 RX8) (hr : meth.sig.returnType = (some .int)) (y0 : Int32) (y1 : Int32) {q : Int32} (hf : f_X8_weight_b47 y0 y1 = some q) : GW p l e rmX8_weight s m args below meth c A D 3 0 0 (MQ below (cmQ D cy A (some (.int q)) ([] : List va_W).flatten) args s 0 0 A) 47 [] [.int y0, .int y1] [] := by
  unfold f_X8_weight_b47 at hf
  refine g_iadd X dX8_weight_47 ?_
  have hf := Option.some.inj hf
  subst hf
  exact g_iret X hr dX8_weight_48
def f_X8_weight_b24 (x0 : Int32) (x1 : Int32) (y0 : Bool) : Option (Int32) :=
  (f_X8_bits x0).bind (fun q875 => if (b2i y0) = 0 then f_X8_weight_b47 (0 : Int32) ((10 : Int32) * q875) else f_X8_weight_b47 (((2 : Int32) * (x1 - x1 / (2 : Int32) * (2 : Int32))) - (1 : Int32)) ((10 : Int32) * q875))
set_option maxRecDepth 100000 in
set_option maxHeartbeats 4000000 in
theorem j_X8_weight_b24 {p : Program} {l : Launch} {e : Env} {s : State} {m : MethodId} {args : Array Value} {below : List Frame} {meth : Method} {c : Code} {A : Nat → Prop} {D : va_G} {cy : Nat → ClassId} {ad : (Nat → Nat) × (Nat → Nat)} (X : gK p s m args meth c A D cy ad cX8_weight 3 RX8) (hr : meth.sig.returnType = (some .int)) (x0 : Int32) (x1 : Int32) (y0 : Bool) {q : Int32} (hf : f_X8_weight_b24 x0 x1 y0 = some q) : GW p l e rmX8_weight s m args below meth c A D 3 0 0 (MQ below (cmQ D cy A (some (.int q)) ([] : List va_W).flatten) args s 0 0 A) 24 [(0, .int x0), (1, .int x1)] [.int (b2i y0)] [] := by
  unfold f_X8_weight_b24 at hf
  refine g_istore_n (lv' := [(0, .int x0), (1, .int x1), (2, .int (b2i y0))]) X dX8_weight_24 [1, 2, 0] rfl (Nat.le_of_ble_eq_true rfl) rfl ?_
  refine g_bipush X (10 : Int32) dX8_weight_25 (by decide) ?_
  refine g_iload_n X dX8_weight_27 0 rfl rfl ?_
  obtain ⟨q875, hq875, hf⟩ := obind hf
  refine g_callS (gs' := []) (rest := [.int (10 : Int32)]) X dX8_weight_28 (c_X8_bits l D cy ad x0 hq875) mf_X8_bits ms_X8_bits lkm_X8_57 ⟨(Nat.le_of_ble_eq_true rfl), (Nat.le_of_ble_eq_true rfl), (Nat.le_of_ble_eq_true rfl), (Nat.le_of_ble_eq_true rfl)⟩ [] _ (List.Perm.refl _ : ([] : List Nat).Perm (List.range 0)) rfl (List.Perm.refl _ : ([] : List Nat).Perm (List.range 0)) rfl (Nat.le_of_ble_eq_true rfl) rfl ?_
  refine g_imul X dX8_weight_31 ?_
  refine g_iload_n X dX8_weight_32 2 rfl rfl ?_
  refine g_if_eq X 46 dX8_weight_33 (by decide) (fun c876 => ?_) (fun c876 => ?_)
  · have hf := opos c876 hf
    refine g_iconst X (0 : Int32) dX8_weight_46 (by decide) ?_
    refine g_sub [] (lv' := []) rfl ?_
    exact j_X8_weight_b47 X hr (0 : Int32) ((10 : Int32) * q875) hf
  · have hf := oneg c876 hf
    refine g_iconst X (2 : Int32) dX8_weight_36 (by decide) ?_
    refine g_iload_n X dX8_weight_37 1 rfl rfl ?_
    refine g_iconst X (2 : Int32) dX8_weight_38 (by decide) ?_
    refine g_irem X dX8_weight_39 (by decide) ?_
    refine g_imul X dX8_weight_40 ?_
    refine g_iconst X (1 : Int32) dX8_weight_41 (by decide) ?_
    refine g_isub X dX8_weight_42 ?_
    refine g_goto X 47 dX8_weight_43 (by decide) ?_
    refine g_sub [] (lv' := []) rfl ?_
    exact j_X8_weight_b47 X hr (((2 : Int32) * (x1 - x1 / (2 : Int32) * (2 : Int32))) - (1 : Int32)) ((10 : Int32) * q875) hf
def f_X8_weight_b23 (x0 : Int32) (x1 : Int32) : Option (Int32) :=
  f_X8_weight_b24 x0 x1 false
set_option maxRecDepth 100000 in
set_option maxHeartbeats 4000000 in
theorem j_X8_weight_b23 {p : Program} {l : Launch} {e : Env} {s : State} {m : MethodId} {args : Array Value} {below : List Frame} {meth : Method} {c : Code} {A : Nat → Prop} {D : va_G} {cy : Nat → ClassId} {ad : (Nat → Nat) × (Nat → Nat)} (X : gK p s m args meth c A D cy ad cX8_weight 3 RX8) (hr : meth.sig.returnType = (some .int)) (x0 : Int32) (x1 : Int32) {q : Int32} (hf : f_X8_weight_b23 x0 x1 = some q) : GW p l e rmX8_weight s m args below meth c A D 3 0 0 (MQ below (cmQ D cy A (some (.int q)) ([] : List va_W).flatten) args s 0 0 A) 23 [(0, .int x0), (1, .int x1)] [] [] := by
  unfold f_X8_weight_b23 at hf
  refine g_iconst X (0 : Int32) dX8_weight_23 (by decide) ?_
  exact j_X8_weight_b24 X hr x0 x1 false hf
def f_X8_weight (p0 : Int32) (p1 : Int32) : Option (Int32) :=
  if (12 : Int32) ≤ (p1 / (2 : Int32)) then f_X8_weight_b23 p0 p1 else if ((p0 >>> ((p1 / (2 : Int32)) &&& 31)) &&& (1 : Int32)) = (1 : Int32) then f_X8_weight_b24 p0 p1 true else f_X8_weight_b23 p0 p1
set_option maxRecDepth 100000 in
set_option maxHeartbeats 4000000 in
theorem c_X8_weight (l : Launch) (D : va_G) (cy : Nat → ClassId) (ad : (Nat → Nat) × (Nat → Nat)) (p0 : Int32) (p1 : Int32) {q : Int32} (hf : f_X8_weight p0 p1 = some q) : CM l yX8_weight cX8_weight 3 (some .int) rmX8_weight D cy ad [.int p0, .int p1] [] (some (.int q)) [] := by
  refine cm_of (lv0 := [(0, .int p0), (1, .int p1)]) (by decide) (Nat.le_of_ble_eq_true rfl) rfl ?_
  intro p e s m args below meth c A X hr hn
  have X : gK p s m args meth c A D cy ad cX8_weight 3 RX8 := X
  unfold f_X8_weight at hf
  refine g_iload_n X dX8_weight_0 1 rfl rfl ?_
  refine g_iconst X (2 : Int32) dX8_weight_1 (by decide) ?_
  refine g_idiv X dX8_weight_2 (by decide) ?_
  refine g_bipush X (12 : Int32) dX8_weight_3 (by decide) ?_
  refine g_icmp_ge X 23 dX8_weight_5 (by decide) (fun c878 => ?_) (fun c878 => ?_)
  · have hf := opos c878 hf
    exact j_X8_weight_b23 X hr p0 p1 hf
  · have hf := oneg c878 hf
    refine g_iload_n X dX8_weight_8 0 rfl rfl ?_
    refine g_iload_n X dX8_weight_9 1 rfl rfl ?_
    refine g_iconst X (2 : Int32) dX8_weight_10 (by decide) ?_
    refine g_idiv X dX8_weight_11 (by decide) ?_
    refine g_ishr X dX8_weight_12 ?_
    refine g_iconst X (1 : Int32) dX8_weight_13 (by decide) ?_
    refine g_iand X dX8_weight_14 ?_
    refine g_iconst X (1 : Int32) dX8_weight_15 (by decide) ?_
    refine g_icmp_ne X 23 dX8_weight_16 (by decide) (fun c877 => ?_) (fun c877 => ?_)
    · have hf := oneg c877 hf
      exact j_X8_weight_b23 X hr p0 p1 hf
    · have hf := opos c877 hf
      refine g_iconst X (1 : Int32) dX8_weight_19 (by decide) ?_
      refine g_goto X 24 dX8_weight_20 (by decide) ?_
      exact j_X8_weight_b24 X hr p0 p1 true hf
abbrev rmX8_outcome : Room := ({ frames := 2, cells := 0, slots := 0, locals := 44 } : Room)
def f_X8_outcome_b48 (x5 : Int32) (y0 : Bool) (y1 : Int32) (y2 : Int32) : Option (Int32) :=
  if x5 ≤ (y2 * (y1 + (b2i y0))) then if (y2 * (y1 + (b2i y0))) ≤ x5 then some (0 : Int32) else some (2 : Int32) else some (1 : Int32)
set_option maxRecDepth 100000 in
set_option maxHeartbeats 4000000 in
theorem j_X8_outcome_b48 {p : Program} {l : Launch} {e : Env} {s : State} {m : MethodId} {args : Array Value} {below : List Frame} {meth : Method} {c : Code} {A : Nat → Prop} {D : va_G} {cy : Nat → ClassId} {ad : (Nat → Nat) × (Nat → Nat)} (X : gK p s m args meth c A D cy ad cX8_outcome 7 RX8) (hr : meth.sig.returnType = (some .int)) (x5 : Int32) (y0 : Bool) (y1 : Int32) (y2 : Int32) {q : Int32} (hf : f_X8_outcome_b48 x5 y0 y1 y2 = some q) : GW p l e rmX8_outcome s m args below meth c A D 7 0 0 (MQ below (cmQ D cy A (some (.int q)) ([] : List va_W).flatten) args s 0 0 A) 48 [(5, .int x5)] [.int (b2i y0), .int y1, .int y2] [] := by
  unfold f_X8_outcome_b48 at hf
  refine g_iadd X dX8_outcome_48 ?_
  refine g_imul X dX8_outcome_49 ?_
  refine g_istore (lv' := [(5, .int x5), (6, .int (y2 * (y1 + (b2i y0))))]) X dX8_outcome_50 [1, 0] (Nat.le_of_ble_eq_true rfl) rfl ?_
  refine g_iload X dX8_outcome_52 0 rfl ?_
  refine g_iload X dX8_outcome_54 1 rfl ?_
  refine g_icmp_le X 63 dX8_outcome_56 (by decide) (fun c886 => ?_) (fun c886 => ?_)
  · have hf := opos c886 hf
    refine g_iload X dX8_outcome_63 0 rfl ?_
    refine g_iload X dX8_outcome_65 1 rfl ?_
    refine g_icmp_ge X 74 dX8_outcome_67 (by decide) (fun c885 => ?_) (fun c885 => ?_)
    · have hf := opos c885 hf
      refine g_iconst X (0 : Int32) dX8_outcome_74 (by decide) ?_
      have hf := Option.some.inj hf
      subst hf
      exact g_iret X hr dX8_outcome_75
    · have hf := oneg c885 hf
      refine g_iconst X (2 : Int32) dX8_outcome_70 (by decide) ?_
      refine g_goto X 75 dX8_outcome_71 (by decide) ?_
      have hf := Option.some.inj hf
      subst hf
      exact g_iret X hr dX8_outcome_75
  · have hf := oneg c886 hf
    refine g_iconst X (1 : Int32) dX8_outcome_59 (by decide) ?_
    refine g_goto X 75 dX8_outcome_60 (by decide) ?_
    have hf := Option.some.inj hf
    subst hf
    exact g_iret X hr dX8_outcome_75
def f_X8_outcome_b22 (x1 : Int32) (x3 : Int32) (x4 : Int32) (y0 : Bool) (y1 : Int32) (y2 : Int32) : Option (Int32) :=
  (f_X8_weight x1 (x4 / (3 : Int32))).bind (fun q884 => if (x4 - x4 / (3 : Int32) * (3 : Int32)) = (2 : Int32) then f_X8_outcome_b48 (y2 * (y1 + (b2i y0))) true q884 x3 else f_X8_outcome_b48 (y2 * (y1 + (b2i y0))) false q884 x3)
set_option maxRecDepth 100000 in
set_option maxHeartbeats 4000000 in
theorem j_X8_outcome_b22 {p : Program} {l : Launch} {e : Env} {s : State} {m : MethodId} {args : Array Value} {below : List Frame} {meth : Method} {c : Code} {A : Nat → Prop} {D : va_G} {cy : Nat → ClassId} {ad : (Nat → Nat) × (Nat → Nat)} (X : gK p s m args meth c A D cy ad cX8_outcome 7 RX8) (hr : meth.sig.returnType = (some .int)) (x1 : Int32) (x3 : Int32) (x4 : Int32) (y0 : Bool) (y1 : Int32) (y2 : Int32) {q : Int32} (hf : f_X8_outcome_b22 x1 x3 x4 y0 y1 y2 = some q) : GW p l e rmX8_outcome s m args below meth c A D 7 0 0 (MQ below (cmQ D cy A (some (.int q)) ([] : List va_W).flatten) args s 0 0 A) 22 [(1, .int x1), (3, .int x3), (4, .int x4)] [.int (b2i y0), .int y1, .int y2] [] := by
  unfold f_X8_outcome_b22 at hf
  refine g_iadd X dX8_outcome_22 ?_
  refine g_imul X dX8_outcome_23 ?_
  refine g_istore (lv' := [(1, .int x1), (3, .int x3), (4, .int x4), (5, .int (y2 * (y1 + (b2i y0))))]) X dX8_outcome_24 [1, 2, 3, 0] (Nat.le_of_ble_eq_true rfl) rfl ?_
  refine g_iload_n X dX8_outcome_26 1 rfl rfl ?_
  refine g_iload_n X dX8_outcome_27 0 rfl rfl ?_
  refine g_iload X dX8_outcome_28 2 rfl ?_
  refine g_iconst X (3 : Int32) dX8_outcome_30 (by decide) ?_
  refine g_idiv X dX8_outcome_31 (by decide) ?_
  obtain ⟨q884, hq884, hf⟩ := obind hf
  refine g_callS (gs' := []) (rest := [.int x3]) X dX8_outcome_32 (c_X8_weight l D cy ad x1 (x4 / (3 : Int32)) hq884) mf_X8_weight ms_X8_weight lkm_X8_61 ⟨(Nat.le_of_ble_eq_true rfl), (Nat.le_of_ble_eq_true rfl), (Nat.le_of_ble_eq_true rfl), (Nat.le_of_ble_eq_true rfl)⟩ [] _ (List.Perm.refl _ : ([] : List Nat).Perm (List.range 0)) rfl (List.Perm.refl _ : ([] : List Nat).Perm (List.range 0)) rfl (Nat.le_of_ble_eq_true rfl) rfl ?_
  refine g_iload X dX8_outcome_35 2 rfl ?_
  refine g_iconst X (3 : Int32) dX8_outcome_37 (by decide) ?_
  refine g_irem X dX8_outcome_38 (by decide) ?_
  refine g_iconst X (2 : Int32) dX8_outcome_39 (by decide) ?_
  refine g_icmp_ne X 47 dX8_outcome_40 (by decide) (fun c887 => ?_) (fun c887 => ?_)
  · have hf := oneg c887 hf
    refine g_iconst X (0 : Int32) dX8_outcome_47 (by decide) ?_
    refine g_sub [3] (lv' := [(5, .int (y2 * (y1 + (b2i y0))))]) rfl ?_
    exact j_X8_outcome_b48 X hr (y2 * (y1 + (b2i y0))) false q884 x3 hf
  · have hf := opos c887 hf
    refine g_iconst X (1 : Int32) dX8_outcome_43 (by decide) ?_
    refine g_goto X 48 dX8_outcome_44 (by decide) ?_
    refine g_sub [3] (lv' := [(5, .int (y2 * (y1 + (b2i y0))))]) rfl ?_
    exact j_X8_outcome_b48 X hr (y2 * (y1 + (b2i y0))) true q884 x3 hf
def f_X8_outcome (p0 : Int32) (p1 : Int32) (p2 : Int32) (p3 : Int32) (p4 : Int32) : Option (Int32) :=
  (f_X8_weight p0 (p4 / (3 : Int32))).bind (fun q883 => if (p4 - p4 / (3 : Int32) * (3 : Int32)) = (1 : Int32) then f_X8_outcome_b22 p1 p3 p4 true q883 p2 else f_X8_outcome_b22 p1 p3 p4 false q883 p2)
set_option maxRecDepth 100000 in
set_option maxHeartbeats 4000000 in
theorem c_X8_outcome (l : Launch) (D : va_G) (cy : Nat → ClassId) (ad : (Nat → Nat) × (Nat → Nat)) (p0 : Int32) (p1 : Int32) (p2 : Int32) (p3 : Int32) (p4 : Int32) {q : Int32} (hf : f_X8_outcome p0 p1 p2 p3 p4 = some q) : CM l yX8_outcome cX8_outcome 7 (some .int) rmX8_outcome D cy ad [.int p0, .int p1, .int p2, .int p3, .int p4] [] (some (.int q)) [] := by
  refine cm_of (lv0 := [(0, .int p0), (1, .int p1), (2, .int p2), (3, .int p3), (4, .int p4)]) (by decide) (Nat.le_of_ble_eq_true rfl) rfl ?_
  intro p e s m args below meth c A X hr hn
  have X : gK p s m args meth c A D cy ad cX8_outcome 7 RX8 := X
  unfold f_X8_outcome at hf
  refine g_iload_n X dX8_outcome_0 2 rfl rfl ?_
  refine g_iload_n X dX8_outcome_1 0 rfl rfl ?_
  refine g_iload X dX8_outcome_2 4 rfl ?_
  refine g_iconst X (3 : Int32) dX8_outcome_4 (by decide) ?_
  refine g_idiv X dX8_outcome_5 (by decide) ?_
  obtain ⟨q883, hq883, hf⟩ := obind hf
  refine g_callS (gs' := []) (rest := [.int p2]) X dX8_outcome_6 (c_X8_weight l D cy ad p0 (p4 / (3 : Int32)) hq883) mf_X8_weight ms_X8_weight lkm_X8_61 ⟨(Nat.le_of_ble_eq_true rfl), (Nat.le_of_ble_eq_true rfl), (Nat.le_of_ble_eq_true rfl), (Nat.le_of_ble_eq_true rfl)⟩ [] _ (List.Perm.refl _ : ([] : List Nat).Perm (List.range 0)) rfl (List.Perm.refl _ : ([] : List Nat).Perm (List.range 0)) rfl (Nat.le_of_ble_eq_true rfl) rfl ?_
  refine g_iload X dX8_outcome_9 4 rfl ?_
  refine g_iconst X (3 : Int32) dX8_outcome_11 (by decide) ?_
  refine g_irem X dX8_outcome_12 (by decide) ?_
  refine g_iconst X (1 : Int32) dX8_outcome_13 (by decide) ?_
  refine g_icmp_ne X 21 dX8_outcome_14 (by decide) (fun c888 => ?_) (fun c888 => ?_)
  · have hf := oneg c888 hf
    refine g_iconst X (0 : Int32) dX8_outcome_21 (by decide) ?_
    refine g_sub [1, 3, 4] (lv' := [(1, .int p1), (3, .int p3), (4, .int p4)]) rfl ?_
    exact j_X8_outcome_b22 X hr p1 p3 p4 false q883 p2 hf
  · have hf := opos c888 hf
    refine g_iconst X (1 : Int32) dX8_outcome_17 (by decide) ?_
    refine g_goto X 22 dX8_outcome_18 (by decide) ?_
    refine g_sub [1, 3, 4] (lv' := [(1, .int p1), (3, .int p3), (4, .int p4)]) rfl ?_
    exact j_X8_outcome_b22 X hr p1 p3 p4 true q883 p2 hf
abbrev rmX8_at : Room := ({ frames := 0, cells := 0, slots := 0, locals := 0 } : Room)
def f_X8_at (p0 : Int32) : Option (Int32) :=
  some ((7 : Int32) + ((5 : Int32) * p0))
set_option maxRecDepth 100000 in
set_option maxHeartbeats 4000000 in
theorem c_X8_at (l : Launch) (D : va_G) (cy : Nat → ClassId) (ad : (Nat → Nat) × (Nat → Nat)) (p0 : Int32) {q : Int32} (hf : f_X8_at p0 = some q) : CM l yX8_at cX8_at 1 (some .int) rmX8_at D cy ad [.int p0] [] (some (.int q)) [] := by
  refine cm_of (lv0 := [(0, .int p0)]) (by decide) (Nat.le_of_ble_eq_true rfl) rfl ?_
  intro p e s m args below meth c A X hr hn
  have X : gK p s m args meth c A D cy ad cX8_at 1 RX8 := X
  unfold f_X8_at at hf
  refine g_bipush X (7 : Int32) dX8_at_0 (by decide) ?_
  refine g_iconst X (5 : Int32) dX8_at_2 (by decide) ?_
  refine g_iload_n X dX8_at_3 0 rfl rfl ?_
  refine g_imul X dX8_at_4 ?_
  refine g_iadd X dX8_at_5 ?_
  have hf := Option.some.inj hf
  subst hf
  exact g_iret X hr dX8_at_6
abbrev rmX8_fits : Room := ({ frames := 3, cells := 0, slots := 0, locals := 70 } : Room)
def f_X8_fits_B2 (w0 : Fn) (x1 : Int32) (x2 : Int32) (z : Int32) : Option ((Int32) ⊕ ((Unit) ⊕ (Unit))) :=
  if x2 ≤ z then some (.inr (.inr ())) else (f_X8_at z).bind (fun q903 => if q903 < 0 ∨ 107 ≤ q903.toNatClampNeg then none else if (q903 + (1 : Int32)) < 0 ∨ 107 ≤ (q903 + (1 : Int32)).toNatClampNeg then none else if (q903 + (3 : Int32)) < 0 ∨ 107 ≤ (q903 + (3 : Int32)).toNatClampNeg then none else if (q903 + (4 : Int32)) < 0 ∨ 107 ≤ (q903 + (4 : Int32)).toNatClampNeg then none else (f_X8_outcome (w0 q903.toNatClampNeg) (w0 (q903 + (1 : Int32)).toNatClampNeg) (w0 (q903 + (3 : Int32)).toNatClampNeg) (w0 (q903 + (4 : Int32)).toNatClampNeg) x1).bind (fun q908 => if (q903 + (2 : Int32)) < 0 ∨ 107 ≤ (q903 + (2 : Int32)).toNatClampNeg then none else if q908 = (w0 (q903 + (2 : Int32)).toNatClampNeg) then some (.inl ((z + (1 : Int32)))) else some (.inr (.inl ()))))
set_option maxRecDepth 100000 in
set_option maxHeartbeats 4000000 in
theorem b_X8_fits_B2 {p : Program} {l : Launch} {e : Env} {s : State} {m : MethodId} {args : Array Value} {below : List Frame} {meth : Method} {c : Code} {A : Nat → Prop} {D : va_G} {cy : Nat → ClassId} {ad : (Nat → Nat) × (Nat → Nat)} {Q : State → Prop} (X : gK p s m args meth c A D cy ad cX8_fits 5 RX8) (hr : meth.sig.returnType = (some .boolean)) {g0 : Nat} (w0 : Fn) (x1 : Int32) (x2 : Int32) (z : Int32) {q : (Int32) ⊕ ((Unit) ⊕ (Unit))} (hf : f_X8_fits_B2 w0 x1 x2 z = some q) (K1 : ∀ s' : Int32, q = .inl s' → GW p l e rmX8_fits s m args below meth c A D 5 0 0 Q 2 [(0, .ref g0), (1, .int x1), (2, .int x2), (3, .int s')] [] [AI cy 107 g0 w0]) (K2 : ∀ e' : Unit, q = .inr (.inl e') → GW p l e rmX8_fits s m args below meth c A D 5 0 0 Q 48 [] [] [AI cy 107 g0 w0]) (K3 : ∀ e' : Unit, q = .inr (.inr e') → GW p l e rmX8_fits s m args below meth c A D 5 0 0 Q 56 [] [] [AI cy 107 g0 w0]) : GW p l e rmX8_fits s m args below meth c A D 5 0 0 Q 2 [(0, .ref g0), (1, .int x1), (2, .int x2), (3, .int z)] [] [AI cy 107 g0 w0] := by
  unfold f_X8_fits_B2 at hf
  refine g_iload_n X dX8_fits_2 3 rfl rfl ?_
  refine g_iload_n X dX8_fits_3 2 rfl rfl ?_
  refine g_icmp_ge X 56 dX8_fits_4 (by decide) (fun c911 => ?_) (fun c911 => ?_)
  · have hf := opos c911 hf
    refine g_sub [] (lv' := []) rfl ?_
    exact K3 () (Option.some.inj hf).symm
  · have hf := oneg c911 hf
    refine g_iload_n X dX8_fits_7 3 rfl rfl ?_
    obtain ⟨q903, hq903, hf⟩ := obind hf
    refine g_callS (gs' := [AI cy 107 g0 w0]) (rest := []) X dX8_fits_8 (c_X8_at l D cy ad z hq903) mf_X8_at ms_X8_at lkm_X8_65 ⟨(Nat.le_of_ble_eq_true rfl), (Nat.le_of_ble_eq_true rfl), (Nat.le_of_ble_eq_true rfl), (Nat.le_of_ble_eq_true rfl)⟩ [0] _ (by decide : [0].Perm (List.range 1)) rfl (by decide : [0].Perm (List.range 1)) rfl (Nat.le_of_ble_eq_true rfl) rfl ?_
    refine g_istore (lv' := [(0, .ref g0), (1, .int x1), (2, .int x2), (3, .int z), (4, .int q903)]) X dX8_fits_11 [1, 2, 3, 4, 0] (Nat.le_of_ble_eq_true rfl) rfl ?_
    refine g_aload_n X dX8_fits_13 0 rfl rfl ?_
    refine g_iload X dX8_fits_14 4 rfl ?_
    obtain ⟨n904, hf⟩ := oguard hf
    refine g_iaload X dX8_fits_16 0 0 rfl rfl n904 ?_
    refine g_aload_n X dX8_fits_17 0 rfl rfl ?_
    refine g_iload X dX8_fits_18 4 rfl ?_
    refine g_iconst X (1 : Int32) dX8_fits_20 (by decide) ?_
    refine g_iadd X dX8_fits_21 ?_
    obtain ⟨n905, hf⟩ := oguard hf
    refine g_iaload X dX8_fits_22 0 0 rfl rfl n905 ?_
    refine g_aload_n X dX8_fits_23 0 rfl rfl ?_
    refine g_iload X dX8_fits_24 4 rfl ?_
    refine g_iconst X (3 : Int32) dX8_fits_26 (by decide) ?_
    refine g_iadd X dX8_fits_27 ?_
    obtain ⟨n906, hf⟩ := oguard hf
    refine g_iaload X dX8_fits_28 0 0 rfl rfl n906 ?_
    refine g_aload_n X dX8_fits_29 0 rfl rfl ?_
    refine g_iload X dX8_fits_30 4 rfl ?_
    refine g_iconst X (4 : Int32) dX8_fits_32 (by decide) ?_
    refine g_iadd X dX8_fits_33 ?_
    obtain ⟨n907, hf⟩ := oguard hf
    refine g_iaload X dX8_fits_34 0 0 rfl rfl n907 ?_
    refine g_iload_n X dX8_fits_35 1 rfl rfl ?_
    obtain ⟨q908, hq908, hf⟩ := obind hf
    refine g_callS (gs' := [AI cy 107 g0 w0]) (rest := []) X dX8_fits_36 (c_X8_outcome l D cy ad (w0 q903.toNatClampNeg) (w0 (q903 + (1 : Int32)).toNatClampNeg) (w0 (q903 + (3 : Int32)).toNatClampNeg) (w0 (q903 + (4 : Int32)).toNatClampNeg) x1 hq908) mf_X8_outcome ms_X8_outcome lkm_X8_68 ⟨(Nat.le_of_ble_eq_true rfl), (Nat.le_of_ble_eq_true rfl), (Nat.le_of_ble_eq_true rfl), (Nat.le_of_ble_eq_true rfl)⟩ [0] _ (by decide : [0].Perm (List.range 1)) rfl (by decide : [0].Perm (List.range 1)) rfl (Nat.le_of_ble_eq_true rfl) rfl ?_
    refine g_aload_n X dX8_fits_39 0 rfl rfl ?_
    refine g_iload X dX8_fits_40 4 rfl ?_
    refine g_iconst X (2 : Int32) dX8_fits_42 (by decide) ?_
    refine g_iadd X dX8_fits_43 ?_
    obtain ⟨n909, hf⟩ := oguard hf
    refine g_iaload X dX8_fits_44 0 0 rfl rfl n909 ?_
    refine g_icmp_eq X 50 dX8_fits_45 (by decide) (fun c910 => ?_) (fun c910 => ?_)
    · have hf := opos c910 hf
      refine g_iinc (lv' := [(0, .ref g0), (1, .int x1), (2, .int x2), (3, .int (z + (1 : Int32))), (4, .int q903)]) (v := (1 : Int32)) X dX8_fits_50 3 rfl (by decide) [1, 2, 3, 0, 4] (Nat.le_of_ble_eq_true rfl) rfl ?_
      refine g_goto X 2 dX8_fits_53 (by decide) ?_
      refine g_sub [0, 1, 2, 3] (lv' := [(0, .ref g0), (1, .int x1), (2, .int x2), (3, .int (z + (1 : Int32)))]) rfl ?_
      exact K1 ((z + (1 : Int32))) (Option.some.inj hf).symm
    · have hf := oneg c910 hf
      refine g_sub [] (lv' := []) rfl ?_
      exact K2 () (Option.some.inj hf).symm
set_option maxRecDepth 100000 in
set_option maxHeartbeats 4000000 in
theorem w_X8_fits_B2 {p : Program} {l : Launch} {e : Env} {s : State} {m : MethodId} {args : Array Value} {below : List Frame} {meth : Method} {c : Code} {A : Nat → Prop} {D : va_G} {cy : Nat → ClassId} {ad : (Nat → Nat) × (Nat → Nat)} {Q : State → Prop} (X : gK p s m args meth c A D cy ad cX8_fits 5 RX8) (hr : meth.sig.returnType = (some .boolean)) {g0 : Nat} (w0 : Fn) (x1 : Int32) (x2 : Int32) {n : Nat} {z : Int32} {q : (Unit) ⊕ (Unit)} (hf : itl (f_X8_fits_B2 w0 x1 x2) n z = some q) (K2 : ∀ e' : Unit, q = .inl e' → GW p l e rmX8_fits s m args below meth c A D 5 0 0 Q 48 [] [] [AI cy 107 g0 w0]) (K3 : ∀ e' : Unit, q = .inr e' → GW p l e rmX8_fits s m args below meth c A D 5 0 0 Q 56 [] [] [AI cy 107 g0 w0]) : GW p l e rmX8_fits s m args below meth c A D 5 0 0 Q 2 [(0, .ref g0), (1, .int x1), (2, .int x2), (3, .int z)] [] [AI cy 107 g0 w0] :=
  itl_ind (f := f_X8_fits_B2 w0 x1 x2) (I := fun z => GW p l e rmX8_fits s m args below meth c A D 5 0 0 Q 2 [(0, .ref g0), (1, .int x1), (2, .int x2), (3, .int z)] [] [AI cy 107 g0 w0]) (J := (fun q => (∀ e' : Unit, q = .inl e' → GW p l e rmX8_fits s m args below meth c A D 5 0 0 Q 48 [] [] [AI cy 107 g0 w0]) ∧ (∀ e' : Unit, q = .inr e' → GW p l e rmX8_fits s m args below meth c A D 5 0 0 Q 56 [] [] [AI cy 107 g0 w0]))) (fun z x h k1 k2 => b_X8_fits_B2 X hr w0 x1 x2 z h (fun s' hs => k1 s' hs) (fun e' he => (k2 _ he).1 e' rfl) (fun e' he => (k2 _ he).2 e' rfl)) n z q hf ⟨K2, K3⟩
def f_X8_fits (w0 : Fn) (p1 : Int32) (p2 : Int32) : Option (Bool) :=
  (itl (f_X8_fits_B2 w0 p1 p2) FU (0 : Int32)).bind (Sum.elim (fun q912e => some false) (fun q912e => some true))
set_option maxRecDepth 100000 in
set_option maxHeartbeats 4000000 in
theorem c_X8_fits (l : Launch) (D : va_G) (cy : Nat → ClassId) (ad : (Nat → Nat) × (Nat → Nat)) (g0 : Nat) (w0 : Fn) (p1 : Int32) (p2 : Int32) {q : Bool} (hf : f_X8_fits w0 p1 p2 = some q) : CM l yX8_fits cX8_fits 5 (some .boolean) rmX8_fits D cy ad [.ref g0, .int p1, .int p2] [AI cy 107 g0 w0] (some (.int (b2i q))) [AI cy 107 g0 w0] := by
  refine cm_of (lv0 := [(0, .ref g0), (1, .int p1), (2, .int p2)]) (by decide) (Nat.le_of_ble_eq_true rfl) rfl ?_
  intro p e s m args below meth c A X hr hn
  have X : gK p s m args meth c A D cy ad cX8_fits 5 RX8 := X
  unfold f_X8_fits at hf
  refine g_iconst X (0 : Int32) dX8_fits_0 (by decide) ?_
  refine g_istore_n (lv' := [(0, .ref g0), (1, .int p1), (2, .int p2), (3, .int (0 : Int32))]) X dX8_fits_1 [1, 2, 3, 0] rfl (Nat.le_of_ble_eq_true rfl) rfl ?_
  obtain ⟨q912, hq912, hf⟩ := obind hf
  refine w_X8_fits_B2 X hr w0 p1 p2 hq912 (fun q912e hq912e => ?_) (fun q912e hq912e => ?_)
  · subst hq912e
    have hf := sinl hf
    refine g_iconst X (0 : Int32) dX8_fits_48 (by decide) ?_
    have hf := Option.some.inj hf
    subst hf
    exact g_zret (b := false) X hr dX8_fits_49
  · subst hq912e
    have hf := sinr hf
    refine g_iconst X (1 : Int32) dX8_fits_56 (by decide) ?_
    have hf := Option.some.inj hf
    subst hf
    exact g_zret (b := true) X hr dX8_fits_57
abbrev rmX8_many : Room := ({ frames := 4, cells := 0, slots := 0, locals := 94 } : Room)
def f_X8_many_B4_b29 (w0 : Fn) (x1 : Int32) (x3 : Int32) (y0 : Bool) (y1 : Int32) : Option ((Int32 × Int32) ⊕ ((Int32))) :=
  some (.inl ((y1 + (b2i y0)), (x3 + (1 : Int32))))
set_option maxRecDepth 100000 in
set_option maxHeartbeats 4000000 in
theorem j_X8_many_B4_b29 {p : Program} {l : Launch} {e : Env} {s : State} {m : MethodId} {args : Array Value} {below : List Frame} {meth : Method} {c : Code} {A : Nat → Prop} {D : va_G} {cy : Nat → ClassId} {ad : (Nat → Nat) × (Nat → Nat)} {Q : State → Prop} (X : gK p s m args meth c A D cy ad cX8_many 4 RX8) (hr : meth.sig.returnType = (some .int)) {g0 : Nat} (w0 : Fn) (x1 : Int32) (x3 : Int32) (y0 : Bool) (y1 : Int32) {q : (Int32 × Int32) ⊕ ((Int32))} (hf : f_X8_many_B4_b29 w0 x1 x3 y0 y1 = some q) (K1 : ∀ s' : Int32 × Int32, q = .inl s' → GW p l e rmX8_many s m args below meth c A D 4 0 0 Q 4 [(0, .ref g0), (1, .int x1), (2, .int s'.1), (3, .int s'.2)] [] [AI cy 107 g0 w0]) (K2 : ∀ e' : Int32, q = .inr (e') → GW p l e rmX8_many s m args below meth c A D 4 0 0 Q 37 [(2, .int e')] [] [AI cy 107 g0 w0]) : GW p l e rmX8_many s m args below meth c A D 4 0 0 Q 29 [(0, .ref g0), (1, .int x1), (3, .int x3)] [.int (b2i y0), .int y1] [AI cy 107 g0 w0] := by
  unfold f_X8_many_B4_b29 at hf
  refine g_iadd X dX8_many_29 ?_
  refine g_istore_n (lv' := [(0, .ref g0), (1, .int x1), (2, .int (y1 + (b2i y0))), (3, .int x3)]) X dX8_many_30 [1, 2, 0, 3] rfl (Nat.le_of_ble_eq_true rfl) rfl ?_
  refine g_iinc (lv' := [(0, .ref g0), (1, .int x1), (2, .int (y1 + (b2i y0))), (3, .int (x3 + (1 : Int32)))]) (v := (1 : Int32)) X dX8_many_31 3 rfl (by decide) [1, 2, 3, 0] (Nat.le_of_ble_eq_true rfl) rfl ?_
  refine g_goto X 4 dX8_many_34 (by decide) ?_
  exact K1 ((y1 + (b2i y0)), (x3 + (1 : Int32))) (Option.some.inj hf).symm
def f_X8_many_B4 (w0 : Fn) (x1 : Int32) (z : Int32 × Int32) : Option ((Int32 × Int32) ⊕ ((Int32))) :=
  (f_X8_allOf (w0 (0 : Int32).toNatClampNeg)).bind (fun q917 => if q917 ≤ z.2 then some (.inr ((z.1))) else (f_X8_fits w0 z.2 x1).bind (fun q918 => if (b2i q918) = 0 then f_X8_many_B4_b29 w0 x1 z.2 false z.1 else f_X8_many_B4_b29 w0 x1 z.2 true z.1))
set_option maxRecDepth 100000 in
set_option maxHeartbeats 4000000 in
theorem b_X8_many_B4 {p : Program} {l : Launch} {e : Env} {s : State} {m : MethodId} {args : Array Value} {below : List Frame} {meth : Method} {c : Code} {A : Nat → Prop} {D : va_G} {cy : Nat → ClassId} {ad : (Nat → Nat) × (Nat → Nat)} {Q : State → Prop} (X : gK p s m args meth c A D cy ad cX8_many 4 RX8) (hr : meth.sig.returnType = (some .int)) {g0 : Nat} (w0 : Fn) (x1 : Int32) (z : Int32 × Int32) {q : (Int32 × Int32) ⊕ ((Int32))} (hf : f_X8_many_B4 w0 x1 z = some q) (K1 : ∀ s' : Int32 × Int32, q = .inl s' → GW p l e rmX8_many s m args below meth c A D 4 0 0 Q 4 [(0, .ref g0), (1, .int x1), (2, .int s'.1), (3, .int s'.2)] [] [AI cy 107 g0 w0]) (K2 : ∀ e' : Int32, q = .inr (e') → GW p l e rmX8_many s m args below meth c A D 4 0 0 Q 37 [(2, .int e')] [] [AI cy 107 g0 w0]) : GW p l e rmX8_many s m args below meth c A D 4 0 0 Q 4 [(0, .ref g0), (1, .int x1), (2, .int z.1), (3, .int z.2)] [] [AI cy 107 g0 w0] := by
  unfold f_X8_many_B4 at hf
  refine g_iload_n X dX8_many_4 3 rfl rfl ?_
  refine g_aload_n X dX8_many_5 0 rfl rfl ?_
  refine g_iconst X (0 : Int32) dX8_many_6 (by decide) ?_
  refine g_iaload X dX8_many_7 0 0 rfl rfl (by decide) ?_
  obtain ⟨q917, hq917, hf⟩ := obind hf
  refine g_callS (gs' := [AI cy 107 g0 w0]) (rest := [.int z.2]) X dX8_many_8 (c_X8_allOf l D cy ad (w0 (0 : Int32).toNatClampNeg) hq917) mf_X8_allOf ms_X8_allOf lkm_X8_72 ⟨(Nat.le_of_ble_eq_true rfl), (Nat.le_of_ble_eq_true rfl), (Nat.le_of_ble_eq_true rfl), (Nat.le_of_ble_eq_true rfl)⟩ [0] _ (by decide : [0].Perm (List.range 1)) rfl (by decide : [0].Perm (List.range 1)) rfl (Nat.le_of_ble_eq_true rfl) rfl ?_
  refine g_icmp_ge X 37 dX8_many_11 (by decide) (fun c920 => ?_) (fun c920 => ?_)
  · have hf := opos c920 hf
    refine g_sub [2] (lv' := [(2, .int z.1)]) rfl ?_
    exact K2 (z.1) (Option.some.inj hf).symm
  · have hf := oneg c920 hf
    refine g_iload_n X dX8_many_14 2 rfl rfl ?_
    refine g_aload_n X dX8_many_15 0 rfl rfl ?_
    refine g_iload_n X dX8_many_16 3 rfl rfl ?_
    refine g_iload_n X dX8_many_17 1 rfl rfl ?_
    obtain ⟨q918, hq918, hf⟩ := obind hf
    refine g_callS (gs' := [AI cy 107 g0 w0]) (rest := [.int z.1]) X dX8_many_18 (c_X8_fits l D cy ad g0 w0 z.2 x1 hq918) mf_X8_fits ms_X8_fits lkm_X8_75 ⟨(Nat.le_of_ble_eq_true rfl), (Nat.le_of_ble_eq_true rfl), (Nat.le_of_ble_eq_true rfl), (Nat.le_of_ble_eq_true rfl)⟩ [0] _ (by decide : [0].Perm (List.range 1)) rfl (by decide : [0].Perm (List.range 1)) rfl (Nat.le_of_ble_eq_true rfl) rfl ?_
    refine g_if_eq X 28 dX8_many_21 (by decide) (fun c919 => ?_) (fun c919 => ?_)
    · have hf := opos c919 hf
      refine g_iconst X (0 : Int32) dX8_many_28 (by decide) ?_
      refine g_sub [0, 1, 3] (lv' := [(0, .ref g0), (1, .int x1), (3, .int z.2)]) rfl ?_
      exact j_X8_many_B4_b29 X hr w0 x1 z.2 false z.1 hf K1 K2
    · have hf := oneg c919 hf
      refine g_iconst X (1 : Int32) dX8_many_24 (by decide) ?_
      refine g_goto X 29 dX8_many_25 (by decide) ?_
      refine g_sub [0, 1, 3] (lv' := [(0, .ref g0), (1, .int x1), (3, .int z.2)]) rfl ?_
      exact j_X8_many_B4_b29 X hr w0 x1 z.2 true z.1 hf K1 K2
set_option maxRecDepth 100000 in
set_option maxHeartbeats 4000000 in
theorem w_X8_many_B4 {p : Program} {l : Launch} {e : Env} {s : State} {m : MethodId} {args : Array Value} {below : List Frame} {meth : Method} {c : Code} {A : Nat → Prop} {D : va_G} {cy : Nat → ClassId} {ad : (Nat → Nat) × (Nat → Nat)} {Q : State → Prop} (X : gK p s m args meth c A D cy ad cX8_many 4 RX8) (hr : meth.sig.returnType = (some .int)) {g0 : Nat} (w0 : Fn) (x1 : Int32) {n : Nat} {z : Int32 × Int32} {q : (Int32)} (hf : itl (f_X8_many_B4 w0 x1) n z = some q) (K2 : GW p l e rmX8_many s m args below meth c A D 4 0 0 Q 37 [(2, .int q)] [] [AI cy 107 g0 w0]) : GW p l e rmX8_many s m args below meth c A D 4 0 0 Q 4 [(0, .ref g0), (1, .int x1), (2, .int z.1), (3, .int z.2)] [] [AI cy 107 g0 w0] :=
  itl_ind (f := f_X8_many_B4 w0 x1) (I := fun z => GW p l e rmX8_many s m args below meth c A D 4 0 0 Q 4 [(0, .ref g0), (1, .int x1), (2, .int z.1), (3, .int z.2)] [] [AI cy 107 g0 w0]) (J := (fun q => GW p l e rmX8_many s m args below meth c A D 4 0 0 Q 37 [(2, .int q)] [] [AI cy 107 g0 w0])) (fun z x h k1 k2 => b_X8_many_B4 X hr w0 x1 z h (fun s' hs => k1 s' hs) (fun e' he => k2 e' he)) n z q hf K2
def f_X8_many (w0 : Fn) (p1 : Int32) : Option (Int32) :=
  (itl (f_X8_many_B4 w0 p1) FU ((0 : Int32), (0 : Int32))).bind (fun q921 => some q921)
set_option maxRecDepth 100000 in
set_option maxHeartbeats 4000000 in
theorem c_X8_many (l : Launch) (D : va_G) (cy : Nat → ClassId) (ad : (Nat → Nat) × (Nat → Nat)) (g0 : Nat) (w0 : Fn) (p1 : Int32) {q : Int32} (hf : f_X8_many w0 p1 = some q) : CM l yX8_many cX8_many 4 (some .int) rmX8_many D cy ad [.ref g0, .int p1] [AI cy 107 g0 w0] (some (.int q)) [AI cy 107 g0 w0] := by
  refine cm_of (lv0 := [(0, .ref g0), (1, .int p1)]) (by decide) (Nat.le_of_ble_eq_true rfl) rfl ?_
  intro p e s m args below meth c A X hr hn
  have X : gK p s m args meth c A D cy ad cX8_many 4 RX8 := X
  unfold f_X8_many at hf
  refine g_iconst X (0 : Int32) dX8_many_0 (by decide) ?_
  refine g_istore_n (lv' := [(0, .ref g0), (1, .int p1), (2, .int (0 : Int32))]) X dX8_many_1 [1, 2, 0] rfl (Nat.le_of_ble_eq_true rfl) rfl ?_
  refine g_iconst X (0 : Int32) dX8_many_2 (by decide) ?_
  refine g_istore_n (lv' := [(0, .ref g0), (1, .int p1), (2, .int (0 : Int32)), (3, .int (0 : Int32))]) X dX8_many_3 [1, 2, 3, 0] rfl (Nat.le_of_ble_eq_true rfl) rfl ?_
  obtain ⟨q921, hq921, hf⟩ := obind hf
  refine w_X8_many_B4 X hr w0 p1 hq921 ?_
  refine g_iload_n X dX8_many_37 0 rfl rfl ?_
  have hf := Option.some.inj hf
  subst hf
  exact g_iret X hr dX8_many_38
abbrev rmX8_leftOf : Room := ({ frames := 5, cells := 0, slots := 0, locals := 117 } : Room)
def f_X8_leftOf (w0 : Fn) : Option (Int32) :=
  (f_X8_many w0 (w0 (4 : Int32).toNatClampNeg)).bind (fun q924 => some q924)
set_option maxRecDepth 100000 in
set_option maxHeartbeats 4000000 in
theorem c_X8_leftOf (l : Launch) (D : va_G) (cy : Nat → ClassId) (ad : (Nat → Nat) × (Nat → Nat)) (g0 : Nat) (w0 : Fn) {q : Int32} (hf : f_X8_leftOf w0 = some q) : CM l yX8_leftOf cX8_leftOf 1 (some .int) rmX8_leftOf D cy ad [.ref g0] [AI cy 107 g0 w0] (some (.int q)) [AI cy 107 g0 w0] := by
  refine cm_of (lv0 := [(0, .ref g0)]) (by decide) (Nat.le_of_ble_eq_true rfl) rfl ?_
  intro p e s m args below meth c A X hr hn
  have X : gK p s m args meth c A D cy ad cX8_leftOf 1 RX8 := X
  unfold f_X8_leftOf at hf
  refine g_aload_n X dX8_leftOf_0 0 rfl rfl ?_
  refine g_aload_n X dX8_leftOf_1 0 rfl rfl ?_
  refine g_iconst X (4 : Int32) dX8_leftOf_2 (by decide) ?_
  refine g_iaload X dX8_leftOf_3 0 0 rfl rfl (by decide) ?_
  obtain ⟨q924, hq924, hf⟩ := obind hf
  refine g_callS (gs' := [AI cy 107 g0 w0]) (rest := []) X dX8_leftOf_4 (c_X8_many l D cy ad g0 w0 (w0 (4 : Int32).toNatClampNeg) hq924) mf_X8_many ms_X8_many lkm_X8_79 ⟨(Nat.le_of_ble_eq_true rfl), (Nat.le_of_ble_eq_true rfl), (Nat.le_of_ble_eq_true rfl), (Nat.le_of_ble_eq_true rfl)⟩ [0] _ (by decide : [0].Perm (List.range 1)) rfl (by decide : [0].Perm (List.range 1)) rfl (Nat.le_of_ble_eq_true rfl) rfl ?_
  have hf := Option.some.inj hf
  subst hf
  exact g_iret X hr dX8_leftOf_7
abbrev rmX8_gather : Room := ({ frames := 4, cells := 0, slots := 0, locals := 94 } : Room)
def f_X8_gather_B7_b48 (v0 : MOv) (v7 : Fn) (w0 : Fn) (x2 : Int32) : Option ((Int32 × MOv × Fn) ⊕ ((MOv × Fn))) :=
  some (.inl ((x2 + (1 : Int32)), v0, v7))
set_option maxRecDepth 100000 in
set_option maxHeartbeats 4000000 in
theorem j_X8_gather_B7_b48 {p : Program} {l : Launch} {e : Env} {s : State} {m : MethodId} {args : Array Value} {below : List Frame} {meth : Method} {c : Code} {A : Nat → Prop} {D : va_G} {cy : Nat → ClassId} {ad : (Nat → Nat) × (Nat → Nat)} {Q : State → Prop} (X : gK p s m args meth c A D cy ad cX8_gather 3 RX8) (hr : meth.sig.returnType = none) {h0 h1 h2 h3 h4 h5 h6 h7 h8 g0 : Nat} (v0 : MOv) (v7 : Fn) (w0 : Fn) (x2 : Int32) {q : (Int32 × MOv × Fn) ⊕ ((MOv × Fn))} (hf : f_X8_gather_B7_b48 v0 v7 w0 x2 = some q) (K1 : ∀ s' : Int32 × MOv × Fn, q = .inl s' → GW p l e rmX8_gather s m args below meth c A D 3 0 0 Q 7 [(0, .ref h0), (1, .ref g0), (2, .int s'.1)] [] [MO h0 h1 h2 h3 h4 h5 h6 h7 h8 (s'.2.1.1, s'.2.1.2.1, s'.2.1.2.2.1, s'.2.1.2.2.2.1, s'.2.1.2.2.2.2.1, s'.2.1.2.2.2.2.2), AI cy 75 h7 s'.2.2, AI cy 107 g0 w0]) (K2 : ∀ e' : MOv × Fn, q = .inr (e') → GW p l e rmX8_gather s m args below meth c A D 3 0 0 Q 54 [] [] [MO h0 h1 h2 h3 h4 h5 h6 h7 h8 (e'.1.1, e'.1.2.1, e'.1.2.2.1, e'.1.2.2.2.1, e'.1.2.2.2.2.1, e'.1.2.2.2.2.2), AI cy 75 h7 e'.2, AI cy 107 g0 w0]) : GW p l e rmX8_gather s m args below meth c A D 3 0 0 Q 48 [(0, .ref h0), (1, .ref g0), (2, .int x2)] [] [MO h0 h1 h2 h3 h4 h5 h6 h7 h8 v0, AI cy 75 h7 v7, AI cy 107 g0 w0] := by
  unfold f_X8_gather_B7_b48 at hf
  refine g_iinc (lv' := [(0, .ref h0), (1, .ref g0), (2, .int (x2 + (1 : Int32)))]) (v := (1 : Int32)) X dX8_gather_48 2 rfl (by decide) [1, 2, 0] (Nat.le_of_ble_eq_true rfl) rfl ?_
  refine g_goto X 7 dX8_gather_51 (by decide) ?_
  exact K1 ((x2 + (1 : Int32)), v0, v7) (Option.some.inj hf).symm
def f_X8_gather_B7 (w0 : Fn) (z : Int32 × MOv × Fn) : Option ((Int32 × MOv × Fn) ⊕ ((MOv × Fn))) :=
  (f_X8_allOf (w0 (0 : Int32).toNatClampNeg)).bind (fun q929 => if q929 ≤ z.1 then some (.inr ((z.2.1, z.2.2))) else (f_X8_fits w0 z.1 (w0 (4 : Int32).toNatClampNeg)).bind (fun q930 => if (b2i q930) = 0 then f_X8_gather_B7_b48 z.2.1 z.2.2 w0 z.1 else if z.2.1.2.2.2.1 < 0 ∨ 75 ≤ z.2.1.2.2.2.1.toNatClampNeg then none else f_X8_gather_B7_b48 (z.2.1.1, z.2.1.2.1, z.2.1.2.2.1, (z.2.1.2.2.2.1 + (1 : Int32)), z.2.1.2.2.2.2.1, z.2.1.2.2.2.2.2) (upd z.2.2 z.2.1.2.2.2.1.toNatClampNeg z.1) w0 z.1))
set_option maxRecDepth 100000 in
set_option maxHeartbeats 4000000 in
theorem b_X8_gather_B7 {p : Program} {l : Launch} {e : Env} {s : State} {m : MethodId} {args : Array Value} {below : List Frame} {meth : Method} {c : Code} {A : Nat → Prop} {D : va_G} {cy : Nat → ClassId} {ad : (Nat → Nat) × (Nat → Nat)} {Q : State → Prop} (X : gK p s m args meth c A D cy ad cX8_gather 3 RX8) (hr : meth.sig.returnType = none) {h0 h1 h2 h3 h4 h5 h6 h7 h8 g0 : Nat} (w0 : Fn) (z : Int32 × MOv × Fn) {q : (Int32 × MOv × Fn) ⊕ ((MOv × Fn))} (hf : f_X8_gather_B7 w0 z = some q) (K1 : ∀ s' : Int32 × MOv × Fn, q = .inl s' → GW p l e rmX8_gather s m args below meth c A D 3 0 0 Q 7 [(0, .ref h0), (1, .ref g0), (2, .int s'.1)] [] [MO h0 h1 h2 h3 h4 h5 h6 h7 h8 (s'.2.1.1, s'.2.1.2.1, s'.2.1.2.2.1, s'.2.1.2.2.2.1, s'.2.1.2.2.2.2.1, s'.2.1.2.2.2.2.2), AI cy 75 h7 s'.2.2, AI cy 107 g0 w0]) (K2 : ∀ e' : MOv × Fn, q = .inr (e') → GW p l e rmX8_gather s m args below meth c A D 3 0 0 Q 54 [] [] [MO h0 h1 h2 h3 h4 h5 h6 h7 h8 (e'.1.1, e'.1.2.1, e'.1.2.2.1, e'.1.2.2.2.1, e'.1.2.2.2.2.1, e'.1.2.2.2.2.2), AI cy 75 h7 e'.2, AI cy 107 g0 w0]) : GW p l e rmX8_gather s m args below meth c A D 3 0 0 Q 7 [(0, .ref h0), (1, .ref g0), (2, .int z.1)] [] [MO h0 h1 h2 h3 h4 h5 h6 h7 h8 z.2.1, AI cy 75 h7 z.2.2, AI cy 107 g0 w0] := by
  unfold f_X8_gather_B7 at hf
  refine g_iload_n X dX8_gather_7 2 rfl rfl ?_
  refine g_aload_n X dX8_gather_8 1 rfl rfl ?_
  refine g_iconst X (0 : Int32) dX8_gather_9 (by decide) ?_
  refine g_iaload X dX8_gather_10 2 0 rfl rfl (by decide) ?_
  obtain ⟨q929, hq929, hf⟩ := obind hf
  refine g_callS (gs' := [MO h0 h1 h2 h3 h4 h5 h6 h7 h8 z.2.1, AI cy 75 h7 z.2.2, AI cy 107 g0 w0]) (rest := [.int z.1]) X dX8_gather_11 (c_X8_allOf l D cy ad (w0 (0 : Int32).toNatClampNeg) hq929) mf_X8_allOf ms_X8_allOf lkm_X8_72 ⟨(Nat.le_of_ble_eq_true rfl), (Nat.le_of_ble_eq_true rfl), (Nat.le_of_ble_eq_true rfl), (Nat.le_of_ble_eq_true rfl)⟩ [0, 1, 2] _ (by decide : [0, 1, 2].Perm (List.range 3)) rfl (by decide : [0, 1, 2].Perm (List.range 3)) rfl (Nat.le_of_ble_eq_true rfl) rfl ?_
  refine g_icmp_ge X 54 dX8_gather_14 (by decide) (fun c933 => ?_) (fun c933 => ?_)
  · have hf := opos c933 hf
    refine g_sub [] (lv' := []) rfl ?_
    exact K2 (z.2.1, z.2.2) (Option.some.inj hf).symm
  · have hf := oneg c933 hf
    refine g_aload_n X dX8_gather_17 1 rfl rfl ?_
    refine g_iload_n X dX8_gather_18 2 rfl rfl ?_
    refine g_aload_n X dX8_gather_19 1 rfl rfl ?_
    refine g_iconst X (4 : Int32) dX8_gather_20 (by decide) ?_
    refine g_iaload X dX8_gather_21 2 0 rfl rfl (by decide) ?_
    obtain ⟨q930, hq930, hf⟩ := obind hf
    refine g_callS (gs' := [MO h0 h1 h2 h3 h4 h5 h6 h7 h8 z.2.1, AI cy 75 h7 z.2.2, AI cy 107 g0 w0]) (rest := []) X dX8_gather_22 (c_X8_fits l D cy ad g0 w0 z.1 (w0 (4 : Int32).toNatClampNeg) hq930) mf_X8_fits ms_X8_fits lkm_X8_75 ⟨(Nat.le_of_ble_eq_true rfl), (Nat.le_of_ble_eq_true rfl), (Nat.le_of_ble_eq_true rfl), (Nat.le_of_ble_eq_true rfl)⟩ [2, 0, 1] _ (by decide : [2, 0, 1].Perm (List.range 3)) rfl (by decide : [2, 0, 1].Perm (List.range 3)) rfl (Nat.le_of_ble_eq_true rfl) rfl ?_
    refine g_if_eq X 48 dX8_gather_25 (by decide) (fun c932 => ?_) (fun c932 => ?_)
    · have hf := opos c932 hf
      exact j_X8_gather_B7_b48 X hr z.2.1 z.2.2 w0 z.1 hf K1 K2
    · have hf := oneg c932 hf
      refine g_aload_n X dX8_gather_28 0 rfl rfl ?_
      refine g_get X dX8_gather_29 ck_X8 0 0 9 rfl rfl (Nat.le_of_ble_eq_true rfl) lkf_X8_29 rfl ?_
      refine g_aload_n X dX8_gather_32 0 rfl rfl ?_
      refine g_get X dX8_gather_33 ck_X8 0 0 10 rfl rfl (Nat.le_of_ble_eq_true rfl) lkf_X8_83 rfl ?_
      refine g_iload_n X dX8_gather_36 2 rfl rfl ?_
      obtain ⟨n931, hf⟩ := oguard hf
      refine g_iastore (gs' := [MO h0 h1 h2 h3 h4 h5 h6 h7 h8 z.2.1, AI cy 75 h7 (upd z.2.2 z.2.1.2.2.2.1.toNatClampNeg z.1), AI cy 107 g0 w0]) X dX8_gather_37 1 0 rfl rfl n931 rfl ?_
      refine g_aload_n X dX8_gather_38 0 rfl rfl ?_
      refine g_dup X dX8_gather_39 rfl ?_
      refine g_get X dX8_gather_40 ck_X8 0 0 10 rfl rfl (Nat.le_of_ble_eq_true rfl) lkf_X8_83 rfl ?_
      refine g_iconst X (1 : Int32) dX8_gather_43 (by decide) ?_
      refine g_iadd X dX8_gather_44 ?_
      refine g_put (gs' := [MO h0 h1 h2 h3 h4 h5 h6 h7 h8 (z.2.1.1, z.2.1.2.1, z.2.1.2.2.1, (z.2.1.2.2.2.1 + (1 : Int32)), z.2.1.2.2.2.2.1, z.2.1.2.2.2.2.2), AI cy 75 h7 (upd z.2.2 z.2.1.2.2.2.1.toNatClampNeg z.1), AI cy 107 g0 w0]) X dX8_gather_45 ck_X8 ct_X8 0 0 10 rfl rfl (Nat.le_of_ble_eq_true rfl) lkf_X8_83 rfl rfl rfl (Nat.le_of_ble_eq_true rfl) rfl ?_
      exact j_X8_gather_B7_b48 X hr (z.2.1.1, z.2.1.2.1, z.2.1.2.2.1, (z.2.1.2.2.2.1 + (1 : Int32)), z.2.1.2.2.2.2.1, z.2.1.2.2.2.2.2) (upd z.2.2 z.2.1.2.2.2.1.toNatClampNeg z.1) w0 z.1 hf K1 K2
set_option maxRecDepth 100000 in
set_option maxHeartbeats 4000000 in
theorem w_X8_gather_B7 {p : Program} {l : Launch} {e : Env} {s : State} {m : MethodId} {args : Array Value} {below : List Frame} {meth : Method} {c : Code} {A : Nat → Prop} {D : va_G} {cy : Nat → ClassId} {ad : (Nat → Nat) × (Nat → Nat)} {Q : State → Prop} (X : gK p s m args meth c A D cy ad cX8_gather 3 RX8) (hr : meth.sig.returnType = none) {h0 h1 h2 h3 h4 h5 h6 h7 h8 g0 : Nat} (w0 : Fn) {n : Nat} {z : Int32 × MOv × Fn} {q : (MOv × Fn)} (hf : itl (f_X8_gather_B7 w0) n z = some q) (K2 : GW p l e rmX8_gather s m args below meth c A D 3 0 0 Q 54 [] [] [MO h0 h1 h2 h3 h4 h5 h6 h7 h8 q.1, AI cy 75 h7 q.2, AI cy 107 g0 w0]) : GW p l e rmX8_gather s m args below meth c A D 3 0 0 Q 7 [(0, .ref h0), (1, .ref g0), (2, .int z.1)] [] [MO h0 h1 h2 h3 h4 h5 h6 h7 h8 z.2.1, AI cy 75 h7 z.2.2, AI cy 107 g0 w0] :=
  itl_ind (f := f_X8_gather_B7 w0) (I := fun z => GW p l e rmX8_gather s m args below meth c A D 3 0 0 Q 7 [(0, .ref h0), (1, .ref g0), (2, .int z.1)] [] [MO h0 h1 h2 h3 h4 h5 h6 h7 h8 z.2.1, AI cy 75 h7 z.2.2, AI cy 107 g0 w0]) (J := (fun q => GW p l e rmX8_gather s m args below meth c A D 3 0 0 Q 54 [] [] [MO h0 h1 h2 h3 h4 h5 h6 h7 h8 q.1, AI cy 75 h7 q.2, AI cy 107 g0 w0])) (fun z x h k1 k2 => b_X8_gather_B7 X hr w0 z h (fun s' hs => k1 s' hs) (fun e' he => k2 e' he)) n z q hf K2
def f_X8_gather (v0 : MOv) (v7 : Fn) (w0 : Fn) : Option (MOv × Fn) :=
  (itl (f_X8_gather_B7 w0) FU ((0 : Int32), (v0.1, v0.2.1, v0.2.2.1, (0 : Int32), v0.2.2.2.2.1, v0.2.2.2.2.2), v7)).bind (fun q934 => some (q934.1, q934.2))
set_option maxRecDepth 100000 in
set_option maxHeartbeats 4000000 in
theorem c_X8_gather (l : Launch) (D : va_G) (cy : Nat → ClassId) (ad : (Nat → Nat) × (Nat → Nat)) (h0 : Nat) (h1 : Nat) (h2 : Nat) (h3 : Nat) (h4 : Nat) (h5 : Nat) (h6 : Nat) (h7 : Nat) (h8 : Nat) (g0 : Nat) (v0 : MOv) (v7 : Fn) (w0 : Fn) {q : MOv × Fn} (hf : f_X8_gather v0 v7 w0 = some q) : CM l yX8_gather cX8_gather 3 none rmX8_gather D cy ad [.ref h0, .ref g0] [MO h0 h1 h2 h3 h4 h5 h6 h7 h8 v0, AI cy 75 h7 v7, AI cy 107 g0 w0] none [MO h0 h1 h2 h3 h4 h5 h6 h7 h8 q.1, AI cy 75 h7 q.2, AI cy 107 g0 w0] := by
  refine cm_of (lv0 := [(0, .ref h0), (1, .ref g0)]) (by decide) (Nat.le_of_ble_eq_true rfl) rfl ?_
  intro p e s m args below meth c A X hr hn
  have X : gK p s m args meth c A D cy ad cX8_gather 3 RX8 := X
  unfold f_X8_gather at hf
  refine g_aload_n X dX8_gather_0 0 rfl rfl ?_
  refine g_iconst X (0 : Int32) dX8_gather_1 (by decide) ?_
  refine g_put (gs' := [MO h0 h1 h2 h3 h4 h5 h6 h7 h8 (v0.1, v0.2.1, v0.2.2.1, (0 : Int32), v0.2.2.2.2.1, v0.2.2.2.2.2), AI cy 75 h7 v7, AI cy 107 g0 w0]) X dX8_gather_2 ck_X8 ct_X8 0 0 10 rfl rfl (Nat.le_of_ble_eq_true rfl) lkf_X8_83 rfl rfl rfl (Nat.le_of_ble_eq_true rfl) rfl ?_
  refine g_iconst X (0 : Int32) dX8_gather_5 (by decide) ?_
  refine g_istore_n (lv' := [(0, .ref h0), (1, .ref g0), (2, .int (0 : Int32))]) X dX8_gather_6 [1, 2, 0] rfl (Nat.le_of_ble_eq_true rfl) rfl ?_
  obtain ⟨q934, hq934, hf⟩ := obind hf
  refine w_X8_gather_B7 X hr w0 hq934 ?_
  have hf := Option.some.inj hf
  subst hf
  exact g_vret X hr dX8_gather_54
abbrev rmX8_worst : Room := ({ frames := 3, cells := 0, slots := 0, locals := 70 } : Room)
def f_X8_worst_B24 (v0 : MOv) (v7 : Fn) (x1 : Int32) (x2 : Int32) (x3 : Int32) (x4 : Int32) (z : Int32 × Fn) : Option ((Int32 × Fn) ⊕ ((Fn))) :=
  if v0.2.2.2.1 ≤ z.1 then some (.inr ((z.2))) else if z.1 < 0 ∨ 75 ≤ z.1.toNatClampNeg then none else (f_X8_outcome x1 x2 x3 x4 (v7 z.1.toNatClampNeg)).bind (fun q942 => if q942 < 0 ∨ 3 ≤ q942.toNatClampNeg then none else if q942 < 0 ∨ 3 ≤ q942.toNatClampNeg then none else some (.inl ((z.1 + (1 : Int32)), (upd z.2 q942.toNatClampNeg ((z.2 q942.toNatClampNeg) + (1 : Int32))))))
set_option maxRecDepth 100000 in
set_option maxHeartbeats 4000000 in
theorem b_X8_worst_B24 {p : Program} {l : Launch} {e : Env} {s : State} {m : MethodId} {args : Array Value} {below : List Frame} {meth : Method} {c : Code} {A : Nat → Prop} {D : va_G} {cy : Nat → ClassId} {ad : (Nat → Nat) × (Nat → Nat)} {Q : State → Prop} (X : gK p s m args meth c A D cy ad cX8_worst 6 RX8) (hr : meth.sig.returnType = (some .int)) {h0 h1 h2 h3 h4 h5 h6 h7 h8 : Nat} (v0 : MOv) (v7 : Fn) (x1 : Int32) (x2 : Int32) (x3 : Int32) (x4 : Int32) (z : Int32 × Fn) {q : (Int32 × Fn) ⊕ ((Fn))} (hf : f_X8_worst_B24 v0 v7 x1 x2 x3 x4 z = some q) (K1 : ∀ s' : Int32 × Fn, q = .inl s' → GW p l e rmX8_worst s m args below meth c A D 6 0 0 Q 24 [(0, .ref h0), (1, .int x1), (2, .int x2), (3, .int x3), (4, .int x4), (5, .int s'.1)] [] [MO h0 h1 h2 h3 h4 h5 h6 h7 h8 v0, AI cy 75 h7 v7, AI cy 3 h8 s'.2]) (K2 : ∀ e' : Fn, q = .inr (e') → GW p l e rmX8_worst s m args below meth c A D 6 0 0 Q 63 [(0, .ref h0)] [] [MO h0 h1 h2 h3 h4 h5 h6 h7 h8 v0, AI cy 75 h7 v7, AI cy 3 h8 e']) : GW p l e rmX8_worst s m args below meth c A D 6 0 0 Q 24 [(0, .ref h0), (1, .int x1), (2, .int x2), (3, .int x3), (4, .int x4), (5, .int z.1)] [] [MO h0 h1 h2 h3 h4 h5 h6 h7 h8 v0, AI cy 75 h7 v7, AI cy 3 h8 z.2] := by
  unfold f_X8_worst_B24 at hf
  refine g_iload X dX8_worst_24 5 rfl ?_
  refine g_aload_n X dX8_worst_26 0 rfl rfl ?_
  refine g_get X dX8_worst_27 ck_X8 0 0 10 rfl rfl (Nat.le_of_ble_eq_true rfl) lkf_X8_83 rfl ?_
  refine g_icmp_ge X 63 dX8_worst_30 (by decide) (fun c945 => ?_) (fun c945 => ?_)
  · have hf := opos c945 hf
    refine g_sub [0] (lv' := [(0, .ref h0)]) rfl ?_
    exact K2 (z.2) (Option.some.inj hf).symm
  · have hf := oneg c945 hf
    refine g_aload_n X dX8_worst_33 0 rfl rfl ?_
    refine g_get X dX8_worst_34 ck_X8 0 0 11 rfl rfl (Nat.le_of_ble_eq_true rfl) lkf_X8_32 rfl ?_
    refine g_iload_n X dX8_worst_37 1 rfl rfl ?_
    refine g_iload_n X dX8_worst_38 2 rfl rfl ?_
    refine g_iload_n X dX8_worst_39 3 rfl rfl ?_
    refine g_iload X dX8_worst_40 4 rfl ?_
    refine g_aload_n X dX8_worst_42 0 rfl rfl ?_
    refine g_get X dX8_worst_43 ck_X8 0 0 9 rfl rfl (Nat.le_of_ble_eq_true rfl) lkf_X8_29 rfl ?_
    refine g_iload X dX8_worst_46 5 rfl ?_
    obtain ⟨n941, hf⟩ := oguard hf
    refine g_iaload X dX8_worst_48 1 0 rfl rfl n941 ?_
    obtain ⟨q942, hq942, hf⟩ := obind hf
    refine g_callS (gs' := [MO h0 h1 h2 h3 h4 h5 h6 h7 h8 v0, AI cy 75 h7 v7, AI cy 3 h8 z.2]) (rest := [.ref h8]) X dX8_worst_49 (c_X8_outcome l D cy ad x1 x2 x3 x4 (v7 z.1.toNatClampNeg) hq942) mf_X8_outcome ms_X8_outcome lkm_X8_68 ⟨(Nat.le_of_ble_eq_true rfl), (Nat.le_of_ble_eq_true rfl), (Nat.le_of_ble_eq_true rfl), (Nat.le_of_ble_eq_true rfl)⟩ [0, 1, 2] _ (by decide : [0, 1, 2].Perm (List.range 3)) rfl (by decide : [0, 1, 2].Perm (List.range 3)) rfl (Nat.le_of_ble_eq_true rfl) rfl ?_
    refine g_dup2 X dX8_worst_52 rfl rfl ?_
    obtain ⟨n943, hf⟩ := oguard hf
    refine g_iaload X dX8_worst_53 2 0 rfl rfl n943 ?_
    refine g_iconst X (1 : Int32) dX8_worst_54 (by decide) ?_
    refine g_iadd X dX8_worst_55 ?_
    obtain ⟨n944, hf⟩ := oguard hf
    refine g_iastore (gs' := [MO h0 h1 h2 h3 h4 h5 h6 h7 h8 v0, AI cy 75 h7 v7, AI cy 3 h8 (upd z.2 q942.toNatClampNeg ((z.2 q942.toNatClampNeg) + (1 : Int32)))]) X dX8_worst_56 2 0 rfl rfl n944 rfl ?_
    refine g_iinc (lv' := [(0, .ref h0), (1, .int x1), (2, .int x2), (3, .int x3), (4, .int x4), (5, .int (z.1 + (1 : Int32)))]) (v := (1 : Int32)) X dX8_worst_57 5 rfl (by decide) [1, 2, 3, 4, 5, 0] (Nat.le_of_ble_eq_true rfl) rfl ?_
    refine g_goto X 24 dX8_worst_60 (by decide) ?_
    exact K1 ((z.1 + (1 : Int32)), (upd z.2 q942.toNatClampNeg ((z.2 q942.toNatClampNeg) + (1 : Int32)))) (Option.some.inj hf).symm
set_option maxRecDepth 100000 in
set_option maxHeartbeats 4000000 in
theorem w_X8_worst_B24 {p : Program} {l : Launch} {e : Env} {s : State} {m : MethodId} {args : Array Value} {below : List Frame} {meth : Method} {c : Code} {A : Nat → Prop} {D : va_G} {cy : Nat → ClassId} {ad : (Nat → Nat) × (Nat → Nat)} {Q : State → Prop} (X : gK p s m args meth c A D cy ad cX8_worst 6 RX8) (hr : meth.sig.returnType = (some .int)) {h0 h1 h2 h3 h4 h5 h6 h7 h8 : Nat} (v0 : MOv) (v7 : Fn) (x1 : Int32) (x2 : Int32) (x3 : Int32) (x4 : Int32) {n : Nat} {z : Int32 × Fn} {q : (Fn)} (hf : itl (f_X8_worst_B24 v0 v7 x1 x2 x3 x4) n z = some q) (K2 : GW p l e rmX8_worst s m args below meth c A D 6 0 0 Q 63 [(0, .ref h0)] [] [MO h0 h1 h2 h3 h4 h5 h6 h7 h8 v0, AI cy 75 h7 v7, AI cy 3 h8 q]) : GW p l e rmX8_worst s m args below meth c A D 6 0 0 Q 24 [(0, .ref h0), (1, .int x1), (2, .int x2), (3, .int x3), (4, .int x4), (5, .int z.1)] [] [MO h0 h1 h2 h3 h4 h5 h6 h7 h8 v0, AI cy 75 h7 v7, AI cy 3 h8 z.2] :=
  itl_ind (f := f_X8_worst_B24 v0 v7 x1 x2 x3 x4) (I := fun z => GW p l e rmX8_worst s m args below meth c A D 6 0 0 Q 24 [(0, .ref h0), (1, .int x1), (2, .int x2), (3, .int x3), (4, .int x4), (5, .int z.1)] [] [MO h0 h1 h2 h3 h4 h5 h6 h7 h8 v0, AI cy 75 h7 v7, AI cy 3 h8 z.2]) (J := (fun q => GW p l e rmX8_worst s m args below meth c A D 6 0 0 Q 63 [(0, .ref h0)] [] [MO h0 h1 h2 h3 h4 h5 h6 h7 h8 v0, AI cy 75 h7 v7, AI cy 3 h8 q])) (fun z x h k1 k2 => b_X8_worst_B24 X hr v0 v7 x1 x2 x3 x4 z h (fun s' hs => k1 s' hs) (fun e' he => k2 e' he)) n z q hf K2
def f_X8_worst_b93 (v0 : MOv) (v7 : Fn) (v8 : Fn) (y0 : Int32) : Option (Int32 × Fn) :=
  if y0 ≤ (v8 (2 : Int32).toNatClampNeg) then some ((v8 (2 : Int32).toNatClampNeg), v8) else some (y0, v8)
set_option maxRecDepth 100000 in
set_option maxHeartbeats 4000000 in
theorem j_X8_worst_b93 {p : Program} {l : Launch} {e : Env} {s : State} {m : MethodId} {args : Array Value} {below : List Frame} {meth : Method} {c : Code} {A : Nat → Prop} {D : va_G} {cy : Nat → ClassId} {ad : (Nat → Nat) × (Nat → Nat)} (X : gK p s m args meth c A D cy ad cX8_worst 6 RX8) (hr : meth.sig.returnType = (some .int)) {h0 h1 h2 h3 h4 h5 h6 h7 h8 : Nat} (v0 : MOv) (v7 : Fn) (v8 : Fn) (y0 : Int32) {q : Int32 × Fn} (hf : f_X8_worst_b93 v0 v7 v8 y0 = some q) : GW p l e rmX8_worst s m args below meth c A D 6 0 0 (MQ below (cmQ D cy A (some (.int q.1)) ([MO h0 h1 h2 h3 h4 h5 h6 h7 h8 v0, AI cy 75 h7 v7, AI cy 3 h8 q.2] : List va_W).flatten) args s 0 0 A) 93 [(0, .ref h0)] [.int y0] [MO h0 h1 h2 h3 h4 h5 h6 h7 h8 v0, AI cy 75 h7 v7, AI cy 3 h8 v8] := by
  unfold f_X8_worst_b93 at hf
  refine g_istore (lv' := [(0, .ref h0), (5, .int y0)]) X dX8_worst_93 [1, 0] (Nat.le_of_ble_eq_true rfl) rfl ?_
  refine g_iload X dX8_worst_95 1 rfl ?_
  refine g_aload_n X dX8_worst_97 0 rfl rfl ?_
  refine g_get X dX8_worst_98 ck_X8 0 0 11 rfl rfl (Nat.le_of_ble_eq_true rfl) lkf_X8_32 rfl ?_
  refine g_iconst X (2 : Int32) dX8_worst_101 (by decide) ?_
  refine g_iaload X dX8_worst_102 2 0 rfl rfl (by decide) ?_
  refine g_icmp_le X 111 dX8_worst_103 (by decide) (fun c947 => ?_) (fun c947 => ?_)
  · have hf := opos c947 hf
    refine g_aload_n X dX8_worst_111 0 rfl rfl ?_
    refine g_get X dX8_worst_112 ck_X8 0 0 11 rfl rfl (Nat.le_of_ble_eq_true rfl) lkf_X8_32 rfl ?_
    refine g_iconst X (2 : Int32) dX8_worst_115 (by decide) ?_
    refine g_iaload X dX8_worst_116 2 0 rfl rfl (by decide) ?_
    have hf := Option.some.inj hf
    subst hf
    exact g_iret X hr dX8_worst_117
  · have hf := oneg c947 hf
    refine g_iload X dX8_worst_106 1 rfl ?_
    refine g_goto X 117 dX8_worst_108 (by decide) ?_
    have hf := Option.some.inj hf
    subst hf
    exact g_iret X hr dX8_worst_117
def f_X8_worst (v0 : MOv) (v7 : Fn) (v8 : Fn) (p1 : Int32) (p2 : Int32) (p3 : Int32) (p4 : Int32) : Option (Int32 × Fn) :=
  (itl (f_X8_worst_B24 v0 v7 p1 p2 p3 p4) FU ((0 : Int32), (upd (upd (upd v8 (0 : Int32).toNatClampNeg (0 : Int32)) (1 : Int32).toNatClampNeg (0 : Int32)) (2 : Int32).toNatClampNeg (0 : Int32)))).bind (fun q946 => if (q946 (0 : Int32).toNatClampNeg) ≤ (q946 (1 : Int32).toNatClampNeg) then f_X8_worst_b93 v0 v7 q946 (q946 (1 : Int32).toNatClampNeg) else f_X8_worst_b93 v0 v7 q946 (q946 (0 : Int32).toNatClampNeg))
set_option maxRecDepth 100000 in
set_option maxHeartbeats 4000000 in
theorem c_X8_worst (l : Launch) (D : va_G) (cy : Nat → ClassId) (ad : (Nat → Nat) × (Nat → Nat)) (h0 : Nat) (h1 : Nat) (h2 : Nat) (h3 : Nat) (h4 : Nat) (h5 : Nat) (h6 : Nat) (h7 : Nat) (h8 : Nat) (v0 : MOv) (v7 : Fn) (v8 : Fn) (p1 : Int32) (p2 : Int32) (p3 : Int32) (p4 : Int32) {q : Int32 × Fn} (hf : f_X8_worst v0 v7 v8 p1 p2 p3 p4 = some q) : CM l yX8_worst cX8_worst 6 (some .int) rmX8_worst D cy ad [.ref h0, .int p1, .int p2, .int p3, .int p4] [MO h0 h1 h2 h3 h4 h5 h6 h7 h8 v0, AI cy 75 h7 v7, AI cy 3 h8 v8] (some (.int q.1)) [MO h0 h1 h2 h3 h4 h5 h6 h7 h8 v0, AI cy 75 h7 v7, AI cy 3 h8 q.2] := by
  refine cm_of (lv0 := [(0, .ref h0), (1, .int p1), (2, .int p2), (3, .int p3), (4, .int p4)]) (by decide) (Nat.le_of_ble_eq_true rfl) rfl ?_
  intro p e s m args below meth c A X hr hn
  have X : gK p s m args meth c A D cy ad cX8_worst 6 RX8 := X
  unfold f_X8_worst at hf
  refine g_aload_n X dX8_worst_0 0 rfl rfl ?_
  refine g_get X dX8_worst_1 ck_X8 0 0 11 rfl rfl (Nat.le_of_ble_eq_true rfl) lkf_X8_32 rfl ?_
  refine g_iconst X (0 : Int32) dX8_worst_4 (by decide) ?_
  refine g_iconst X (0 : Int32) dX8_worst_5 (by decide) ?_
  refine g_iastore (gs' := [MO h0 h1 h2 h3 h4 h5 h6 h7 h8 v0, AI cy 75 h7 v7, AI cy 3 h8 (upd v8 (0 : Int32).toNatClampNeg (0 : Int32))]) X dX8_worst_6 2 0 rfl rfl (by decide) rfl ?_
  refine g_aload_n X dX8_worst_7 0 rfl rfl ?_
  refine g_get X dX8_worst_8 ck_X8 0 0 11 rfl rfl (Nat.le_of_ble_eq_true rfl) lkf_X8_32 rfl ?_
  refine g_iconst X (1 : Int32) dX8_worst_11 (by decide) ?_
  refine g_iconst X (0 : Int32) dX8_worst_12 (by decide) ?_
  refine g_iastore (gs' := [MO h0 h1 h2 h3 h4 h5 h6 h7 h8 v0, AI cy 75 h7 v7, AI cy 3 h8 (upd (upd v8 (0 : Int32).toNatClampNeg (0 : Int32)) (1 : Int32).toNatClampNeg (0 : Int32))]) X dX8_worst_13 2 0 rfl rfl (by decide) rfl ?_
  refine g_aload_n X dX8_worst_14 0 rfl rfl ?_
  refine g_get X dX8_worst_15 ck_X8 0 0 11 rfl rfl (Nat.le_of_ble_eq_true rfl) lkf_X8_32 rfl ?_
  refine g_iconst X (2 : Int32) dX8_worst_18 (by decide) ?_
  refine g_iconst X (0 : Int32) dX8_worst_19 (by decide) ?_
  refine g_iastore (gs' := [MO h0 h1 h2 h3 h4 h5 h6 h7 h8 v0, AI cy 75 h7 v7, AI cy 3 h8 (upd (upd (upd v8 (0 : Int32).toNatClampNeg (0 : Int32)) (1 : Int32).toNatClampNeg (0 : Int32)) (2 : Int32).toNatClampNeg (0 : Int32))]) X dX8_worst_20 2 0 rfl rfl (by decide) rfl ?_
  refine g_iconst X (0 : Int32) dX8_worst_21 (by decide) ?_
  refine g_istore (lv' := [(0, .ref h0), (1, .int p1), (2, .int p2), (3, .int p3), (4, .int p4), (5, .int (0 : Int32))]) X dX8_worst_22 [1, 2, 3, 4, 5, 0] (Nat.le_of_ble_eq_true rfl) rfl ?_
  obtain ⟨q946, hq946, hf⟩ := obind hf
  refine w_X8_worst_B24 X hr v0 v7 p1 p2 p3 p4 hq946 ?_
  refine g_aload_n X dX8_worst_63 0 rfl rfl ?_
  refine g_get X dX8_worst_64 ck_X8 0 0 11 rfl rfl (Nat.le_of_ble_eq_true rfl) lkf_X8_32 rfl ?_
  refine g_iconst X (0 : Int32) dX8_worst_67 (by decide) ?_
  refine g_iaload X dX8_worst_68 2 0 rfl rfl (by decide) ?_
  refine g_aload_n X dX8_worst_69 0 rfl rfl ?_
  refine g_get X dX8_worst_70 ck_X8 0 0 11 rfl rfl (Nat.le_of_ble_eq_true rfl) lkf_X8_32 rfl ?_
  refine g_iconst X (1 : Int32) dX8_worst_73 (by decide) ?_
  refine g_iaload X dX8_worst_74 2 0 rfl rfl (by decide) ?_
  refine g_icmp_le X 87 dX8_worst_75 (by decide) (fun c948 => ?_) (fun c948 => ?_)
  · have hf := opos c948 hf
    refine g_aload_n X dX8_worst_87 0 rfl rfl ?_
    refine g_get X dX8_worst_88 ck_X8 0 0 11 rfl rfl (Nat.le_of_ble_eq_true rfl) lkf_X8_32 rfl ?_
    refine g_iconst X (1 : Int32) dX8_worst_91 (by decide) ?_
    refine g_iaload X dX8_worst_92 2 0 rfl rfl (by decide) ?_
    exact j_X8_worst_b93 X hr v0 v7 q946 (q946 (1 : Int32).toNatClampNeg) hf
  · have hf := oneg c948 hf
    refine g_aload_n X dX8_worst_78 0 rfl rfl ?_
    refine g_get X dX8_worst_79 ck_X8 0 0 11 rfl rfl (Nat.le_of_ble_eq_true rfl) lkf_X8_32 rfl ?_
    refine g_iconst X (0 : Int32) dX8_worst_82 (by decide) ?_
    refine g_iaload X dX8_worst_83 2 0 rfl rfl (by decide) ?_
    refine g_goto X 93 dX8_worst_84 (by decide) ?_
    exact j_X8_worst_b93 X hr v0 v7 q946 (q946 (0 : Int32).toNatClampNeg) hf
abbrev rmX8_coinOf : Room := ({ frames := 4, cells := 0, slots := 0, locals := 94 } : Room)
def f_X8_coinOf_B4_b53 (w0 : Fn) (x1 : Int32) (x2 : Int32) (x3 : Int32) : Option ((Int32 × Int32) ⊕ ((Int32))) :=
  some (.inl (x2, (x3 + (1 : Int32))))
set_option maxRecDepth 100000 in
set_option maxHeartbeats 4000000 in
theorem j_X8_coinOf_B4_b53 {p : Program} {l : Launch} {e : Env} {s : State} {m : MethodId} {args : Array Value} {below : List Frame} {meth : Method} {c : Code} {A : Nat → Prop} {D : va_G} {cy : Nat → ClassId} {ad : (Nat → Nat) × (Nat → Nat)} {Q : State → Prop} (X : gK p s m args meth c A D cy ad cX8_coinOf 4 RX8) (hr : meth.sig.returnType = (some .int)) {g0 : Nat} (w0 : Fn) (x1 : Int32) (x2 : Int32) (x3 : Int32) {q : (Int32 × Int32) ⊕ ((Int32))} (hf : f_X8_coinOf_B4_b53 w0 x1 x2 x3 = some q) (K1 : ∀ s' : Int32 × Int32, q = .inl s' → GW p l e rmX8_coinOf s m args below meth c A D 4 0 0 Q 4 [(0, .ref g0), (1, .int x1), (2, .int s'.1), (3, .int s'.2)] [] [AI cy 107 g0 w0]) (K2 : ∀ e' : Int32, q = .inr (e') → GW p l e rmX8_coinOf s m args below meth c A D 4 0 0 Q 59 [(2, .int e')] [] [AI cy 107 g0 w0]) : GW p l e rmX8_coinOf s m args below meth c A D 4 0 0 Q 53 [(0, .ref g0), (1, .int x1), (2, .int x2), (3, .int x3)] [] [AI cy 107 g0 w0] := by
  unfold f_X8_coinOf_B4_b53 at hf
  refine g_iinc (lv' := [(0, .ref g0), (1, .int x1), (2, .int x2), (3, .int (x3 + (1 : Int32)))]) (v := (1 : Int32)) X dX8_coinOf_53 3 rfl (by decide) [1, 2, 3, 0] (Nat.le_of_ble_eq_true rfl) rfl ?_
  refine g_goto X 4 dX8_coinOf_56 (by decide) ?_
  exact K1 (x2, (x3 + (1 : Int32))) (Option.some.inj hf).symm
def f_X8_coinOf_B4_b51 (w0 : Fn) (x1 : Int32) (x3 : Int32) (y0 : Int32) (y1 : Int32) : Option ((Int32 × Int32) ⊕ ((Int32))) :=
  f_X8_coinOf_B4_b53 w0 x1 (y1 ||| y0) x3
set_option maxRecDepth 100000 in
set_option maxHeartbeats 4000000 in
theorem j_X8_coinOf_B4_b51 {p : Program} {l : Launch} {e : Env} {s : State} {m : MethodId} {args : Array Value} {below : List Frame} {meth : Method} {c : Code} {A : Nat → Prop} {D : va_G} {cy : Nat → ClassId} {ad : (Nat → Nat) × (Nat → Nat)} {Q : State → Prop} (X : gK p s m args meth c A D cy ad cX8_coinOf 4 RX8) (hr : meth.sig.returnType = (some .int)) {g0 : Nat} (w0 : Fn) (x1 : Int32) (x3 : Int32) (y0 : Int32) (y1 : Int32) {q : (Int32 × Int32) ⊕ ((Int32))} (hf : f_X8_coinOf_B4_b51 w0 x1 x3 y0 y1 = some q) (K1 : ∀ s' : Int32 × Int32, q = .inl s' → GW p l e rmX8_coinOf s m args below meth c A D 4 0 0 Q 4 [(0, .ref g0), (1, .int x1), (2, .int s'.1), (3, .int s'.2)] [] [AI cy 107 g0 w0]) (K2 : ∀ e' : Int32, q = .inr (e') → GW p l e rmX8_coinOf s m args below meth c A D 4 0 0 Q 59 [(2, .int e')] [] [AI cy 107 g0 w0]) : GW p l e rmX8_coinOf s m args below meth c A D 4 0 0 Q 51 [(0, .ref g0), (1, .int x1), (3, .int x3)] [.int y0, .int y1] [AI cy 107 g0 w0] := by
  unfold f_X8_coinOf_B4_b51 at hf
  refine g_ior X dX8_coinOf_51 ?_
  refine g_istore_n (lv' := [(0, .ref g0), (1, .int x1), (2, .int (y1 ||| y0)), (3, .int x3)]) X dX8_coinOf_52 [1, 2, 0, 3] rfl (Nat.le_of_ble_eq_true rfl) rfl ?_
  exact j_X8_coinOf_B4_b53 X hr w0 x1 (y1 ||| y0) x3 hf K1 K2
def f_X8_coinOf_B4 (w0 : Fn) (x1 : Int32) (z : Int32 × Int32) : Option ((Int32 × Int32) ⊕ ((Int32))) :=
  (f_X8_allOf (w0 (0 : Int32).toNatClampNeg)).bind (fun q953 => if q953 ≤ z.2 then some (.inr ((z.1))) else (f_X8_fits w0 z.2 (w0 (4 : Int32).toNatClampNeg)).bind (fun q954 => if (b2i q954) = 0 then f_X8_coinOf_B4_b53 w0 x1 z.1 z.2 else if (z.2 / (6 : Int32)) = x1 then if ((z.2 / (3 : Int32)) - (z.2 / (3 : Int32)) / (2 : Int32) * (2 : Int32)) = 0 then f_X8_coinOf_B4_b51 w0 x1 z.2 (1 : Int32) z.1 else f_X8_coinOf_B4_b51 w0 x1 z.2 (2 : Int32) z.1 else f_X8_coinOf_B4_b51 w0 x1 z.2 (4 : Int32) z.1))
set_option maxRecDepth 100000 in
set_option maxHeartbeats 4000000 in
theorem b_X8_coinOf_B4 {p : Program} {l : Launch} {e : Env} {s : State} {m : MethodId} {args : Array Value} {below : List Frame} {meth : Method} {c : Code} {A : Nat → Prop} {D : va_G} {cy : Nat → ClassId} {ad : (Nat → Nat) × (Nat → Nat)} {Q : State → Prop} (X : gK p s m args meth c A D cy ad cX8_coinOf 4 RX8) (hr : meth.sig.returnType = (some .int)) {g0 : Nat} (w0 : Fn) (x1 : Int32) (z : Int32 × Int32) {q : (Int32 × Int32) ⊕ ((Int32))} (hf : f_X8_coinOf_B4 w0 x1 z = some q) (K1 : ∀ s' : Int32 × Int32, q = .inl s' → GW p l e rmX8_coinOf s m args below meth c A D 4 0 0 Q 4 [(0, .ref g0), (1, .int x1), (2, .int s'.1), (3, .int s'.2)] [] [AI cy 107 g0 w0]) (K2 : ∀ e' : Int32, q = .inr (e') → GW p l e rmX8_coinOf s m args below meth c A D 4 0 0 Q 59 [(2, .int e')] [] [AI cy 107 g0 w0]) : GW p l e rmX8_coinOf s m args below meth c A D 4 0 0 Q 4 [(0, .ref g0), (1, .int x1), (2, .int z.1), (3, .int z.2)] [] [AI cy 107 g0 w0] := by
  unfold f_X8_coinOf_B4 at hf
  refine g_iload_n X dX8_coinOf_4 3 rfl rfl ?_
  refine g_aload_n X dX8_coinOf_5 0 rfl rfl ?_
  refine g_iconst X (0 : Int32) dX8_coinOf_6 (by decide) ?_
  refine g_iaload X dX8_coinOf_7 0 0 rfl rfl (by decide) ?_
  obtain ⟨q953, hq953, hf⟩ := obind hf
  refine g_callS (gs' := [AI cy 107 g0 w0]) (rest := [.int z.2]) X dX8_coinOf_8 (c_X8_allOf l D cy ad (w0 (0 : Int32).toNatClampNeg) hq953) mf_X8_allOf ms_X8_allOf lkm_X8_72 ⟨(Nat.le_of_ble_eq_true rfl), (Nat.le_of_ble_eq_true rfl), (Nat.le_of_ble_eq_true rfl), (Nat.le_of_ble_eq_true rfl)⟩ [0] _ (by decide : [0].Perm (List.range 1)) rfl (by decide : [0].Perm (List.range 1)) rfl (Nat.le_of_ble_eq_true rfl) rfl ?_
  refine g_icmp_ge X 59 dX8_coinOf_11 (by decide) (fun c958 => ?_) (fun c958 => ?_)
  · have hf := opos c958 hf
    refine g_sub [2] (lv' := [(2, .int z.1)]) rfl ?_
    exact K2 (z.1) (Option.some.inj hf).symm
  · have hf := oneg c958 hf
    refine g_aload_n X dX8_coinOf_14 0 rfl rfl ?_
    refine g_iload_n X dX8_coinOf_15 3 rfl rfl ?_
    refine g_aload_n X dX8_coinOf_16 0 rfl rfl ?_
    refine g_iconst X (4 : Int32) dX8_coinOf_17 (by decide) ?_
    refine g_iaload X dX8_coinOf_18 0 0 rfl rfl (by decide) ?_
    obtain ⟨q954, hq954, hf⟩ := obind hf
    refine g_callS (gs' := [AI cy 107 g0 w0]) (rest := []) X dX8_coinOf_19 (c_X8_fits l D cy ad g0 w0 z.2 (w0 (4 : Int32).toNatClampNeg) hq954) mf_X8_fits ms_X8_fits lkm_X8_75 ⟨(Nat.le_of_ble_eq_true rfl), (Nat.le_of_ble_eq_true rfl), (Nat.le_of_ble_eq_true rfl), (Nat.le_of_ble_eq_true rfl)⟩ [0] _ (by decide : [0].Perm (List.range 1)) rfl (by decide : [0].Perm (List.range 1)) rfl (Nat.le_of_ble_eq_true rfl) rfl ?_
    refine g_if_eq X 53 dX8_coinOf_22 (by decide) (fun c957 => ?_) (fun c957 => ?_)
    · have hf := opos c957 hf
      exact j_X8_coinOf_B4_b53 X hr w0 x1 z.1 z.2 hf K1 K2
    · have hf := oneg c957 hf
      refine g_iload_n X dX8_coinOf_25 2 rfl rfl ?_
      refine g_iload_n X dX8_coinOf_26 3 rfl rfl ?_
      refine g_bipush X (6 : Int32) dX8_coinOf_27 (by decide) ?_
      refine g_idiv X dX8_coinOf_29 (by decide) ?_
      refine g_iload_n X dX8_coinOf_30 1 rfl rfl ?_
      refine g_icmp_ne X 50 dX8_coinOf_31 (by decide) (fun c956 => ?_) (fun c956 => ?_)
      · have hf := oneg c956 hf
        refine g_iconst X (4 : Int32) dX8_coinOf_50 (by decide) ?_
        refine g_sub [0, 1, 3] (lv' := [(0, .ref g0), (1, .int x1), (3, .int z.2)]) rfl ?_
        exact j_X8_coinOf_B4_b51 X hr w0 x1 z.2 (4 : Int32) z.1 hf K1 K2
      · have hf := opos c956 hf
        refine g_iload_n X dX8_coinOf_34 3 rfl rfl ?_
        refine g_iconst X (3 : Int32) dX8_coinOf_35 (by decide) ?_
        refine g_idiv X dX8_coinOf_36 (by decide) ?_
        refine g_iconst X (2 : Int32) dX8_coinOf_37 (by decide) ?_
        refine g_irem X dX8_coinOf_38 (by decide) ?_
        refine g_if_ne X 46 dX8_coinOf_39 (by decide) (fun c955 => ?_) (fun c955 => ?_)
        · have hf := oneg c955 hf
          refine g_iconst X (2 : Int32) dX8_coinOf_46 (by decide) ?_
          refine g_goto X 51 dX8_coinOf_47 (by decide) ?_
          refine g_sub [0, 1, 3] (lv' := [(0, .ref g0), (1, .int x1), (3, .int z.2)]) rfl ?_
          exact j_X8_coinOf_B4_b51 X hr w0 x1 z.2 (2 : Int32) z.1 hf K1 K2
        · have hf := opos c955 hf
          refine g_iconst X (1 : Int32) dX8_coinOf_42 (by decide) ?_
          refine g_goto X 51 dX8_coinOf_43 (by decide) ?_
          refine g_sub [0, 1, 3] (lv' := [(0, .ref g0), (1, .int x1), (3, .int z.2)]) rfl ?_
          exact j_X8_coinOf_B4_b51 X hr w0 x1 z.2 (1 : Int32) z.1 hf K1 K2
set_option maxRecDepth 100000 in
set_option maxHeartbeats 4000000 in
theorem w_X8_coinOf_B4 {p : Program} {l : Launch} {e : Env} {s : State} {m : MethodId} {args : Array Value} {below : List Frame} {meth : Method} {c : Code} {A : Nat → Prop} {D : va_G} {cy : Nat → ClassId} {ad : (Nat → Nat) × (Nat → Nat)} {Q : State → Prop} (X : gK p s m args meth c A D cy ad cX8_coinOf 4 RX8) (hr : meth.sig.returnType = (some .int)) {g0 : Nat} (w0 : Fn) (x1 : Int32) {n : Nat} {z : Int32 × Int32} {q : (Int32)} (hf : itl (f_X8_coinOf_B4 w0 x1) n z = some q) (K2 : GW p l e rmX8_coinOf s m args below meth c A D 4 0 0 Q 59 [(2, .int q)] [] [AI cy 107 g0 w0]) : GW p l e rmX8_coinOf s m args below meth c A D 4 0 0 Q 4 [(0, .ref g0), (1, .int x1), (2, .int z.1), (3, .int z.2)] [] [AI cy 107 g0 w0] :=
  itl_ind (f := f_X8_coinOf_B4 w0 x1) (I := fun z => GW p l e rmX8_coinOf s m args below meth c A D 4 0 0 Q 4 [(0, .ref g0), (1, .int x1), (2, .int z.1), (3, .int z.2)] [] [AI cy 107 g0 w0]) (J := (fun q => GW p l e rmX8_coinOf s m args below meth c A D 4 0 0 Q 59 [(2, .int q)] [] [AI cy 107 g0 w0])) (fun z x h k1 k2 => b_X8_coinOf_B4 X hr w0 x1 z h (fun s' hs => k1 s' hs) (fun e' he => k2 e' he)) n z q hf K2
def f_X8_coinOf (w0 : Fn) (p1 : Int32) : Option (Int32) :=
  (itl (f_X8_coinOf_B4 w0 p1) FU ((0 : Int32), (0 : Int32))).bind (fun q959 => some q959)
set_option maxRecDepth 100000 in
set_option maxHeartbeats 4000000 in
theorem c_X8_coinOf (l : Launch) (D : va_G) (cy : Nat → ClassId) (ad : (Nat → Nat) × (Nat → Nat)) (g0 : Nat) (w0 : Fn) (p1 : Int32) {q : Int32} (hf : f_X8_coinOf w0 p1 = some q) : CM l yX8_coinOf cX8_coinOf 4 (some .int) rmX8_coinOf D cy ad [.ref g0, .int p1] [AI cy 107 g0 w0] (some (.int q)) [AI cy 107 g0 w0] := by
  refine cm_of (lv0 := [(0, .ref g0), (1, .int p1)]) (by decide) (Nat.le_of_ble_eq_true rfl) rfl ?_
  intro p e s m args below meth c A X hr hn
  have X : gK p s m args meth c A D cy ad cX8_coinOf 4 RX8 := X
  unfold f_X8_coinOf at hf
  refine g_iconst X (0 : Int32) dX8_coinOf_0 (by decide) ?_
  refine g_istore_n (lv' := [(0, .ref g0), (1, .int p1), (2, .int (0 : Int32))]) X dX8_coinOf_1 [1, 2, 0] rfl (Nat.le_of_ble_eq_true rfl) rfl ?_
  refine g_iconst X (0 : Int32) dX8_coinOf_2 (by decide) ?_
  refine g_istore_n (lv' := [(0, .ref g0), (1, .int p1), (2, .int (0 : Int32)), (3, .int (0 : Int32))]) X dX8_coinOf_3 [1, 2, 3, 0] rfl (Nat.le_of_ble_eq_true rfl) rfl ?_
  obtain ⟨q959, hq959, hf⟩ := obind hf
  refine w_X8_coinOf_B4 X hr w0 p1 hq959 ?_
  refine g_iload_n X dX8_coinOf_59 0 rfl rfl ?_
  have hf := Option.some.inj hf
  subst hf
  exact g_iret X hr dX8_coinOf_60
abbrev rmX8_pansOf : Room := ({ frames := 4, cells := 0, slots := 0, locals := 94 } : Room)
def f_X8_pansOf_B4_b35 (w0 : Fn) (x2 : Int32) (y0 : Int32) (y1 : Int32) : Option ((Int32 × Int32) ⊕ ((Int32))) :=
  some (.inl ((y1 ||| y0), (x2 + (1 : Int32))))
set_option maxRecDepth 100000 in
set_option maxHeartbeats 4000000 in
theorem j_X8_pansOf_B4_b35 {p : Program} {l : Launch} {e : Env} {s : State} {m : MethodId} {args : Array Value} {below : List Frame} {meth : Method} {c : Code} {A : Nat → Prop} {D : va_G} {cy : Nat → ClassId} {ad : (Nat → Nat) × (Nat → Nat)} {Q : State → Prop} (X : gK p s m args meth c A D cy ad cX8_pansOf 3 RX8) (hr : meth.sig.returnType = (some .int)) {g0 : Nat} (w0 : Fn) (x2 : Int32) (y0 : Int32) (y1 : Int32) {q : (Int32 × Int32) ⊕ ((Int32))} (hf : f_X8_pansOf_B4_b35 w0 x2 y0 y1 = some q) (K1 : ∀ s' : Int32 × Int32, q = .inl s' → GW p l e rmX8_pansOf s m args below meth c A D 3 0 0 Q 4 [(0, .ref g0), (1, .int s'.1), (2, .int s'.2)] [] [AI cy 107 g0 w0]) (K2 : ∀ e' : Int32, q = .inr (e') → GW p l e rmX8_pansOf s m args below meth c A D 3 0 0 Q 43 [(1, .int e')] [] [AI cy 107 g0 w0]) : GW p l e rmX8_pansOf s m args below meth c A D 3 0 0 Q 35 [(0, .ref g0), (2, .int x2)] [.int y0, .int y1] [AI cy 107 g0 w0] := by
  unfold f_X8_pansOf_B4_b35 at hf
  refine g_ior X dX8_pansOf_35 ?_
  refine g_istore_n (lv' := [(0, .ref g0), (1, .int (y1 ||| y0)), (2, .int x2)]) X dX8_pansOf_36 [1, 0, 2] rfl (Nat.le_of_ble_eq_true rfl) rfl ?_
  refine g_iinc (lv' := [(0, .ref g0), (1, .int (y1 ||| y0)), (2, .int (x2 + (1 : Int32)))]) (v := (1 : Int32)) X dX8_pansOf_37 2 rfl (by decide) [1, 2, 0] (Nat.le_of_ble_eq_true rfl) rfl ?_
  refine g_goto X 4 dX8_pansOf_40 (by decide) ?_
  exact K1 ((y1 ||| y0), (x2 + (1 : Int32))) (Option.some.inj hf).symm
def f_X8_pansOf_B4 (w0 : Fn) (z : Int32 × Int32) : Option ((Int32 × Int32) ⊕ ((Int32))) :=
  (f_X8_allOf (w0 (0 : Int32).toNatClampNeg)).bind (fun q964 => if q964 ≤ z.2 then some (.inr ((z.1))) else (f_X8_fits w0 z.2 (w0 (4 : Int32).toNatClampNeg)).bind (fun q965 => if (b2i q965) = 0 then f_X8_pansOf_B4_b35 w0 z.2 (0 : Int32) z.1 else f_X8_pansOf_B4_b35 w0 z.2 ((1 : Int32) <<< ((z.2 - z.2 / (3 : Int32) * (3 : Int32)) &&& 31)) z.1))
set_option maxRecDepth 100000 in
set_option maxHeartbeats 4000000 in
theorem b_X8_pansOf_B4 {p : Program} {l : Launch} {e : Env} {s : State} {m : MethodId} {args : Array Value} {below : List Frame} {meth : Method} {c : Code} {A : Nat → Prop} {D : va_G} {cy : Nat → ClassId} {ad : (Nat → Nat) × (Nat → Nat)} {Q : State → Prop} (X : gK p s m args meth c A D cy ad cX8_pansOf 3 RX8) (hr : meth.sig.returnType = (some .int)) {g0 : Nat} (w0 : Fn) (z : Int32 × Int32) {q : (Int32 × Int32) ⊕ ((Int32))} (hf : f_X8_pansOf_B4 w0 z = some q) (K1 : ∀ s' : Int32 × Int32, q = .inl s' → GW p l e rmX8_pansOf s m args below meth c A D 3 0 0 Q 4 [(0, .ref g0), (1, .int s'.1), (2, .int s'.2)] [] [AI cy 107 g0 w0]) (K2 : ∀ e' : Int32, q = .inr (e') → GW p l e rmX8_pansOf s m args below meth c A D 3 0 0 Q 43 [(1, .int e')] [] [AI cy 107 g0 w0]) : GW p l e rmX8_pansOf s m args below meth c A D 3 0 0 Q 4 [(0, .ref g0), (1, .int z.1), (2, .int z.2)] [] [AI cy 107 g0 w0] := by
  unfold f_X8_pansOf_B4 at hf
  refine g_iload_n X dX8_pansOf_4 2 rfl rfl ?_
  refine g_aload_n X dX8_pansOf_5 0 rfl rfl ?_
  refine g_iconst X (0 : Int32) dX8_pansOf_6 (by decide) ?_
  refine g_iaload X dX8_pansOf_7 0 0 rfl rfl (by decide) ?_
  obtain ⟨q964, hq964, hf⟩ := obind hf
  refine g_callS (gs' := [AI cy 107 g0 w0]) (rest := [.int z.2]) X dX8_pansOf_8 (c_X8_allOf l D cy ad (w0 (0 : Int32).toNatClampNeg) hq964) mf_X8_allOf ms_X8_allOf lkm_X8_72 ⟨(Nat.le_of_ble_eq_true rfl), (Nat.le_of_ble_eq_true rfl), (Nat.le_of_ble_eq_true rfl), (Nat.le_of_ble_eq_true rfl)⟩ [0] _ (by decide : [0].Perm (List.range 1)) rfl (by decide : [0].Perm (List.range 1)) rfl (Nat.le_of_ble_eq_true rfl) rfl ?_
  refine g_icmp_ge X 43 dX8_pansOf_11 (by decide) (fun c967 => ?_) (fun c967 => ?_)
  · have hf := opos c967 hf
    refine g_sub [1] (lv' := [(1, .int z.1)]) rfl ?_
    exact K2 (z.1) (Option.some.inj hf).symm
  · have hf := oneg c967 hf
    refine g_iload_n X dX8_pansOf_14 1 rfl rfl ?_
    refine g_aload_n X dX8_pansOf_15 0 rfl rfl ?_
    refine g_iload_n X dX8_pansOf_16 2 rfl rfl ?_
    refine g_aload_n X dX8_pansOf_17 0 rfl rfl ?_
    refine g_iconst X (4 : Int32) dX8_pansOf_18 (by decide) ?_
    refine g_iaload X dX8_pansOf_19 0 0 rfl rfl (by decide) ?_
    obtain ⟨q965, hq965, hf⟩ := obind hf
    refine g_callS (gs' := [AI cy 107 g0 w0]) (rest := [.int z.1]) X dX8_pansOf_20 (c_X8_fits l D cy ad g0 w0 z.2 (w0 (4 : Int32).toNatClampNeg) hq965) mf_X8_fits ms_X8_fits lkm_X8_75 ⟨(Nat.le_of_ble_eq_true rfl), (Nat.le_of_ble_eq_true rfl), (Nat.le_of_ble_eq_true rfl), (Nat.le_of_ble_eq_true rfl)⟩ [0] _ (by decide : [0].Perm (List.range 1)) rfl (by decide : [0].Perm (List.range 1)) rfl (Nat.le_of_ble_eq_true rfl) rfl ?_
    refine g_if_eq X 34 dX8_pansOf_23 (by decide) (fun c966 => ?_) (fun c966 => ?_)
    · have hf := opos c966 hf
      refine g_iconst X (0 : Int32) dX8_pansOf_34 (by decide) ?_
      refine g_sub [0, 2] (lv' := [(0, .ref g0), (2, .int z.2)]) rfl ?_
      exact j_X8_pansOf_B4_b35 X hr w0 z.2 (0 : Int32) z.1 hf K1 K2
    · have hf := oneg c966 hf
      refine g_iconst X (1 : Int32) dX8_pansOf_26 (by decide) ?_
      refine g_iload_n X dX8_pansOf_27 2 rfl rfl ?_
      refine g_iconst X (3 : Int32) dX8_pansOf_28 (by decide) ?_
      refine g_irem X dX8_pansOf_29 (by decide) ?_
      refine g_ishl X dX8_pansOf_30 ?_
      refine g_goto X 35 dX8_pansOf_31 (by decide) ?_
      refine g_sub [0, 2] (lv' := [(0, .ref g0), (2, .int z.2)]) rfl ?_
      exact j_X8_pansOf_B4_b35 X hr w0 z.2 ((1 : Int32) <<< ((z.2 - z.2 / (3 : Int32) * (3 : Int32)) &&& 31)) z.1 hf K1 K2
set_option maxRecDepth 100000 in
set_option maxHeartbeats 4000000 in
theorem w_X8_pansOf_B4 {p : Program} {l : Launch} {e : Env} {s : State} {m : MethodId} {args : Array Value} {below : List Frame} {meth : Method} {c : Code} {A : Nat → Prop} {D : va_G} {cy : Nat → ClassId} {ad : (Nat → Nat) × (Nat → Nat)} {Q : State → Prop} (X : gK p s m args meth c A D cy ad cX8_pansOf 3 RX8) (hr : meth.sig.returnType = (some .int)) {g0 : Nat} (w0 : Fn) {n : Nat} {z : Int32 × Int32} {q : (Int32)} (hf : itl (f_X8_pansOf_B4 w0) n z = some q) (K2 : GW p l e rmX8_pansOf s m args below meth c A D 3 0 0 Q 43 [(1, .int q)] [] [AI cy 107 g0 w0]) : GW p l e rmX8_pansOf s m args below meth c A D 3 0 0 Q 4 [(0, .ref g0), (1, .int z.1), (2, .int z.2)] [] [AI cy 107 g0 w0] :=
  itl_ind (f := f_X8_pansOf_B4 w0) (I := fun z => GW p l e rmX8_pansOf s m args below meth c A D 3 0 0 Q 4 [(0, .ref g0), (1, .int z.1), (2, .int z.2)] [] [AI cy 107 g0 w0]) (J := (fun q => GW p l e rmX8_pansOf s m args below meth c A D 3 0 0 Q 43 [(1, .int q)] [] [AI cy 107 g0 w0])) (fun z x h k1 k2 => b_X8_pansOf_B4 X hr w0 z h (fun s' hs => k1 s' hs) (fun e' he => k2 e' he)) n z q hf K2
def f_X8_pansOf (w0 : Fn) : Option (Int32) :=
  (itl (f_X8_pansOf_B4 w0) FU ((0 : Int32), (0 : Int32))).bind (fun q968 => some q968)
set_option maxRecDepth 100000 in
set_option maxHeartbeats 4000000 in
theorem c_X8_pansOf (l : Launch) (D : va_G) (cy : Nat → ClassId) (ad : (Nat → Nat) × (Nat → Nat)) (g0 : Nat) (w0 : Fn) {q : Int32} (hf : f_X8_pansOf w0 = some q) : CM l yX8_pansOf cX8_pansOf 3 (some .int) rmX8_pansOf D cy ad [.ref g0] [AI cy 107 g0 w0] (some (.int q)) [AI cy 107 g0 w0] := by
  refine cm_of (lv0 := [(0, .ref g0)]) (by decide) (Nat.le_of_ble_eq_true rfl) rfl ?_
  intro p e s m args below meth c A X hr hn
  have X : gK p s m args meth c A D cy ad cX8_pansOf 3 RX8 := X
  unfold f_X8_pansOf at hf
  refine g_iconst X (0 : Int32) dX8_pansOf_0 (by decide) ?_
  refine g_istore_n (lv' := [(0, .ref g0), (1, .int (0 : Int32))]) X dX8_pansOf_1 [1, 0] rfl (Nat.le_of_ble_eq_true rfl) rfl ?_
  refine g_iconst X (0 : Int32) dX8_pansOf_2 (by decide) ?_
  refine g_istore_n (lv' := [(0, .ref g0), (1, .int (0 : Int32)), (2, .int (0 : Int32))]) X dX8_pansOf_3 [1, 2, 0] rfl (Nat.le_of_ble_eq_true rfl) rfl ?_
  obtain ⟨q968, hq968, hf⟩ := obind hf
  refine w_X8_pansOf_B4 X hr w0 hq968 ?_
  refine g_iload_n X dX8_pansOf_43 0 rfl rfl ?_
  have hf := Option.some.inj hf
  subst hf
  exact g_iret X hr dX8_pansOf_44
abbrev rmX8_needsOf : Room := ({ frames := 6, cells := 0, slots := 0, locals := 137 } : Room)
def f_X8_needsOf_B9 (w0 : Fn) (x3 : Int32) (z : Int32 × Int32) : Option ((Int32 × Int32) ⊕ ((Int32))) :=
  if x3 ≤ z.2 then some (.inr ((z.1))) else some (.inl ((z.1 + (1 : Int32)), (z.2 * (3 : Int32))))
set_option maxRecDepth 100000 in
set_option maxHeartbeats 4000000 in
theorem b_X8_needsOf_B9 {p : Program} {l : Launch} {e : Env} {s : State} {m : MethodId} {args : Array Value} {below : List Frame} {meth : Method} {c : Code} {A : Nat → Prop} {D : va_G} {cy : Nat → ClassId} {ad : (Nat → Nat) × (Nat → Nat)} {Q : State → Prop} (X : gK p s m args meth c A D cy ad cX8_needsOf 4 RX8) (hr : meth.sig.returnType = (some .int)) {g0 : Nat} (w0 : Fn) (x3 : Int32) (z : Int32 × Int32) {q : (Int32 × Int32) ⊕ ((Int32))} (hf : f_X8_needsOf_B9 w0 x3 z = some q) (K1 : ∀ s' : Int32 × Int32, q = .inl s' → GW p l e rmX8_needsOf s m args below meth c A D 4 0 0 Q 9 [(1, .int s'.1), (2, .int s'.2), (3, .int x3)] [] [AI cy 107 g0 w0]) (K2 : ∀ e' : Int32, q = .inr (e') → GW p l e rmX8_needsOf s m args below meth c A D 4 0 0 Q 24 [(1, .int e')] [] [AI cy 107 g0 w0]) : GW p l e rmX8_needsOf s m args below meth c A D 4 0 0 Q 9 [(1, .int z.1), (2, .int z.2), (3, .int x3)] [] [AI cy 107 g0 w0] := by
  unfold f_X8_needsOf_B9 at hf
  refine g_iload_n X dX8_needsOf_9 1 rfl rfl ?_
  refine g_iload_n X dX8_needsOf_10 2 rfl rfl ?_
  refine g_icmp_ge X 24 dX8_needsOf_11 (by decide) (fun c972 => ?_) (fun c972 => ?_)
  · have hf := opos c972 hf
    refine g_sub [0] (lv' := [(1, .int z.1)]) rfl ?_
    exact K2 (z.1) (Option.some.inj hf).symm
  · have hf := oneg c972 hf
    refine g_iload_n X dX8_needsOf_14 1 rfl rfl ?_
    refine g_iconst X (3 : Int32) dX8_needsOf_15 (by decide) ?_
    refine g_imul X dX8_needsOf_16 ?_
    refine g_istore_n (lv' := [(1, .int z.1), (2, .int (z.2 * (3 : Int32))), (3, .int x3)]) X dX8_needsOf_17 [1, 0, 2] rfl (Nat.le_of_ble_eq_true rfl) rfl ?_
    refine g_iinc (lv' := [(1, .int (z.1 + (1 : Int32))), (2, .int (z.2 * (3 : Int32))), (3, .int x3)]) (v := (1 : Int32)) X dX8_needsOf_18 0 rfl (by decide) [0, 1, 2] (Nat.le_of_ble_eq_true rfl) rfl ?_
    refine g_goto X 9 dX8_needsOf_21 (by decide) ?_
    exact K1 ((z.1 + (1 : Int32)), (z.2 * (3 : Int32))) (Option.some.inj hf).symm
set_option maxRecDepth 100000 in
set_option maxHeartbeats 4000000 in
theorem w_X8_needsOf_B9 {p : Program} {l : Launch} {e : Env} {s : State} {m : MethodId} {args : Array Value} {below : List Frame} {meth : Method} {c : Code} {A : Nat → Prop} {D : va_G} {cy : Nat → ClassId} {ad : (Nat → Nat) × (Nat → Nat)} {Q : State → Prop} (X : gK p s m args meth c A D cy ad cX8_needsOf 4 RX8) (hr : meth.sig.returnType = (some .int)) {g0 : Nat} (w0 : Fn) (x3 : Int32) {n : Nat} {z : Int32 × Int32} {q : (Int32)} (hf : itl (f_X8_needsOf_B9 w0 x3) n z = some q) (K2 : GW p l e rmX8_needsOf s m args below meth c A D 4 0 0 Q 24 [(1, .int q)] [] [AI cy 107 g0 w0]) : GW p l e rmX8_needsOf s m args below meth c A D 4 0 0 Q 9 [(1, .int z.1), (2, .int z.2), (3, .int x3)] [] [AI cy 107 g0 w0] :=
  itl_ind (f := f_X8_needsOf_B9 w0 x3) (I := fun z => GW p l e rmX8_needsOf s m args below meth c A D 4 0 0 Q 9 [(1, .int z.1), (2, .int z.2), (3, .int x3)] [] [AI cy 107 g0 w0]) (J := (fun q => GW p l e rmX8_needsOf s m args below meth c A D 4 0 0 Q 24 [(1, .int q)] [] [AI cy 107 g0 w0])) (fun z x h k1 k2 => b_X8_needsOf_B9 X hr w0 x3 z h (fun s' hs => k1 s' hs) (fun e' he => k2 e' he)) n z q hf K2
def f_X8_needsOf (w0 : Fn) : Option (Int32) :=
  (f_X8_leftOf w0).bind (fun q971 => (itl (f_X8_needsOf_B9 w0 q971) FU ((0 : Int32), (1 : Int32))).bind (fun q973 => some q973))
set_option maxRecDepth 100000 in
set_option maxHeartbeats 4000000 in
theorem c_X8_needsOf (l : Launch) (D : va_G) (cy : Nat → ClassId) (ad : (Nat → Nat) × (Nat → Nat)) (g0 : Nat) (w0 : Fn) {q : Int32} (hf : f_X8_needsOf w0 = some q) : CM l yX8_needsOf cX8_needsOf 4 (some .int) rmX8_needsOf D cy ad [.ref g0] [AI cy 107 g0 w0] (some (.int q)) [AI cy 107 g0 w0] := by
  refine cm_of (lv0 := [(0, .ref g0)]) (by decide) (Nat.le_of_ble_eq_true rfl) rfl ?_
  intro p e s m args below meth c A X hr hn
  have X : gK p s m args meth c A D cy ad cX8_needsOf 4 RX8 := X
  unfold f_X8_needsOf at hf
  refine g_iconst X (0 : Int32) dX8_needsOf_0 (by decide) ?_
  refine g_istore_n (lv' := [(0, .ref g0), (1, .int (0 : Int32))]) X dX8_needsOf_1 [1, 0] rfl (Nat.le_of_ble_eq_true rfl) rfl ?_
  refine g_iconst X (1 : Int32) dX8_needsOf_2 (by decide) ?_
  refine g_istore_n (lv' := [(0, .ref g0), (1, .int (0 : Int32)), (2, .int (1 : Int32))]) X dX8_needsOf_3 [1, 2, 0] rfl (Nat.le_of_ble_eq_true rfl) rfl ?_
  refine g_aload_n X dX8_needsOf_4 0 rfl rfl ?_
  obtain ⟨q971, hq971, hf⟩ := obind hf
  refine g_callS (gs' := [AI cy 107 g0 w0]) (rest := []) X dX8_needsOf_5 (c_X8_leftOf l D cy ad g0 w0 hq971) mf_X8_leftOf ms_X8_leftOf lkm_X8_86 ⟨(Nat.le_of_ble_eq_true rfl), (Nat.le_of_ble_eq_true rfl), (Nat.le_of_ble_eq_true rfl), (Nat.le_of_ble_eq_true rfl)⟩ [0] _ (by decide : [0].Perm (List.range 1)) rfl (by decide : [0].Perm (List.range 1)) rfl (Nat.le_of_ble_eq_true rfl) rfl ?_
  refine g_istore_n (lv' := [(0, .ref g0), (1, .int (0 : Int32)), (2, .int (1 : Int32)), (3, .int q971)]) X dX8_needsOf_8 [1, 2, 3, 0] rfl (Nat.le_of_ble_eq_true rfl) rfl ?_
  obtain ⟨q973, hq973, hf⟩ := obind hf
  refine g_sub [1, 2, 3] (lv' := [(1, .int (0 : Int32)), (2, .int (1 : Int32)), (3, .int q971)]) rfl ?_
  refine w_X8_needsOf_B9 X hr w0 q971 hq973 ?_
  refine g_iload_n X dX8_needsOf_24 0 rfl rfl ?_
  have hf := Option.some.inj hf
  subst hf
  exact g_iret X hr dX8_needsOf_25
abbrev rmX8_hideOn : Room := ({ frames := 1, cells := 0, slots := 0, locals := 20 } : Room)
def f_X8_hideOn (w0 : Fn) (p1 : Int32) (p2 : Int32) : Option (Int32 × Fn) :=
  (f_X8_allOf p1).bind (fun q976 => some (q976, (upd (upd (upd w0 (0 : Int32).toNatClampNeg p1) (1 : Int32).toNatClampNeg p2) (4 : Int32).toNatClampNeg (0 : Int32))))
set_option maxRecDepth 100000 in
set_option maxHeartbeats 4000000 in
theorem c_X8_hideOn (l : Launch) (D : va_G) (cy : Nat → ClassId) (ad : (Nat → Nat) × (Nat → Nat)) (g0 : Nat) (w0 : Fn) (p1 : Int32) (p2 : Int32) {q : Int32 × Fn} (hf : f_X8_hideOn w0 p1 p2 = some q) : CM l yX8_hideOn cX8_hideOn 3 (some .int) rmX8_hideOn D cy ad [.ref g0, .int p1, .int p2] [AI cy 107 g0 w0] (some (.int q.1)) [AI cy 107 g0 q.2] := by
  refine cm_of (lv0 := [(0, .ref g0), (1, .int p1), (2, .int p2)]) (by decide) (Nat.le_of_ble_eq_true rfl) rfl ?_
  intro p e s m args below meth c A X hr hn
  have X : gK p s m args meth c A D cy ad cX8_hideOn 3 RX8 := X
  unfold f_X8_hideOn at hf
  refine g_aload_n X dX8_hideOn_0 0 rfl rfl ?_
  refine g_iconst X (0 : Int32) dX8_hideOn_1 (by decide) ?_
  refine g_iload_n X dX8_hideOn_2 1 rfl rfl ?_
  refine g_iastore (gs' := [AI cy 107 g0 (upd w0 (0 : Int32).toNatClampNeg p1)]) X dX8_hideOn_3 0 0 rfl rfl (by decide) rfl ?_
  refine g_aload_n X dX8_hideOn_4 0 rfl rfl ?_
  refine g_iconst X (1 : Int32) dX8_hideOn_5 (by decide) ?_
  refine g_iload_n X dX8_hideOn_6 2 rfl rfl ?_
  refine g_iastore (gs' := [AI cy 107 g0 (upd (upd w0 (0 : Int32).toNatClampNeg p1) (1 : Int32).toNatClampNeg p2)]) X dX8_hideOn_7 0 0 rfl rfl (by decide) rfl ?_
  refine g_aload_n X dX8_hideOn_8 0 rfl rfl ?_
  refine g_iconst X (4 : Int32) dX8_hideOn_9 (by decide) ?_
  refine g_iconst X (0 : Int32) dX8_hideOn_10 (by decide) ?_
  refine g_iastore (gs' := [AI cy 107 g0 (upd (upd (upd w0 (0 : Int32).toNatClampNeg p1) (1 : Int32).toNatClampNeg p2) (4 : Int32).toNatClampNeg (0 : Int32))]) X dX8_hideOn_11 0 0 rfl rfl (by decide) rfl ?_
  refine g_iload_n X dX8_hideOn_12 1 rfl rfl ?_
  obtain ⟨q976, hq976, hf⟩ := obind hf
  refine g_callS (gs' := [AI cy 107 g0 (upd (upd (upd w0 (0 : Int32).toNatClampNeg p1) (1 : Int32).toNatClampNeg p2) (4 : Int32).toNatClampNeg (0 : Int32))]) (rest := []) X dX8_hideOn_13 (c_X8_allOf l D cy ad p1 hq976) mf_X8_allOf ms_X8_allOf lkm_X8_72 ⟨(Nat.le_of_ble_eq_true rfl), (Nat.le_of_ble_eq_true rfl), (Nat.le_of_ble_eq_true rfl), (Nat.le_of_ble_eq_true rfl)⟩ [0] _ (by decide : [0].Perm (List.range 1)) rfl (by decide : [0].Perm (List.range 1)) rfl (Nat.le_of_ble_eq_true rfl) rfl ?_
  have hf := Option.some.inj hf
  subst hf
  exact g_iret X hr dX8_hideOn_16
abbrev rmX8_armsOn : Room := ({ frames := 0, cells := 0, slots := 0, locals := 0 } : Room)
def f_X8_armsOn (w0 : Fn) (p1 : Int32) (p2 : Int32) : Option (Int32 × Fn) :=
  if p1 = p2 then some ((1 : Int32), (upd (upd w0 (2 : Int32).toNatClampNeg p1) (3 : Int32).toNatClampNeg p2)) else some ((0 : Int32), (upd (upd w0 (2 : Int32).toNatClampNeg p1) (3 : Int32).toNatClampNeg p2))
set_option maxRecDepth 100000 in
set_option maxHeartbeats 4000000 in
theorem c_X8_armsOn (l : Launch) (D : va_G) (cy : Nat → ClassId) (ad : (Nat → Nat) × (Nat → Nat)) (g0 : Nat) (w0 : Fn) (p1 : Int32) (p2 : Int32) {q : Int32 × Fn} (hf : f_X8_armsOn w0 p1 p2 = some q) : CM l yX8_armsOn cX8_armsOn 3 (some .int) rmX8_armsOn D cy ad [.ref g0, .int p1, .int p2] [AI cy 107 g0 w0] (some (.int q.1)) [AI cy 107 g0 q.2] := by
  refine cm_of (lv0 := [(0, .ref g0), (1, .int p1), (2, .int p2)]) (by decide) (Nat.le_of_ble_eq_true rfl) rfl ?_
  intro p e s m args below meth c A X hr hn
  have X : gK p s m args meth c A D cy ad cX8_armsOn 3 RX8 := X
  unfold f_X8_armsOn at hf
  refine g_aload_n X dX8_armsOn_0 0 rfl rfl ?_
  refine g_iconst X (2 : Int32) dX8_armsOn_1 (by decide) ?_
  refine g_iload_n X dX8_armsOn_2 1 rfl rfl ?_
  refine g_iastore (gs' := [AI cy 107 g0 (upd w0 (2 : Int32).toNatClampNeg p1)]) X dX8_armsOn_3 0 0 rfl rfl (by decide) rfl ?_
  refine g_aload_n X dX8_armsOn_4 0 rfl rfl ?_
  refine g_iconst X (3 : Int32) dX8_armsOn_5 (by decide) ?_
  refine g_iload_n X dX8_armsOn_6 2 rfl rfl ?_
  refine g_iastore (gs' := [AI cy 107 g0 (upd (upd w0 (2 : Int32).toNatClampNeg p1) (3 : Int32).toNatClampNeg p2)]) X dX8_armsOn_7 0 0 rfl rfl (by decide) rfl ?_
  refine g_iload_n X dX8_armsOn_8 1 rfl rfl ?_
  refine g_iload_n X dX8_armsOn_9 2 rfl rfl ?_
  refine g_icmp_ne X 17 dX8_armsOn_10 (by decide) (fun c977 => ?_) (fun c977 => ?_)
  · have hf := oneg c977 hf
    refine g_iconst X (0 : Int32) dX8_armsOn_17 (by decide) ?_
    have hf := Option.some.inj hf
    subst hf
    exact g_iret X hr dX8_armsOn_18
  · have hf := opos c977 hf
    refine g_iconst X (1 : Int32) dX8_armsOn_13 (by decide) ?_
    refine g_goto X 18 dX8_armsOn_14 (by decide) ?_
    have hf := Option.some.inj hf
    subst hf
    exact g_iret X hr dX8_armsOn_18
abbrev rmX8_canWeigh : Room := ({ frames := 3, cells := 0, slots := 0, locals := 68 } : Room)
def f_X8_canWeigh (w0 : Fn) (p1 : Int32) (p2 : Int32) : Option (Bool) :=
  (f_X8_isWeighing w0 p1 p2).bind (fun q980 => if (b2i q980) = 0 then some false else if (20 : Int32) ≤ (w0 (4 : Int32).toNatClampNeg) then some false else some true)
set_option maxRecDepth 100000 in
set_option maxHeartbeats 4000000 in
theorem c_X8_canWeigh (l : Launch) (D : va_G) (cy : Nat → ClassId) (ad : (Nat → Nat) × (Nat → Nat)) (g0 : Nat) (w0 : Fn) (p1 : Int32) (p2 : Int32) {q : Bool} (hf : f_X8_canWeigh w0 p1 p2 = some q) : CM l yX8_canWeigh cX8_canWeigh 3 (some .boolean) rmX8_canWeigh D cy ad [.ref g0, .int p1, .int p2] [AI cy 107 g0 w0] (some (.int (b2i q))) [AI cy 107 g0 w0] := by
  refine cm_of (lv0 := [(0, .ref g0), (1, .int p1), (2, .int p2)]) (by decide) (Nat.le_of_ble_eq_true rfl) rfl ?_
  intro p e s m args below meth c A X hr hn
  have X : gK p s m args meth c A D cy ad cX8_canWeigh 3 RX8 := X
  unfold f_X8_canWeigh at hf
  refine g_aload_n X dX8_canWeigh_0 0 rfl rfl ?_
  refine g_iload_n X dX8_canWeigh_1 1 rfl rfl ?_
  refine g_iload_n X dX8_canWeigh_2 2 rfl rfl ?_
  obtain ⟨q980, hq980, hf⟩ := obind hf
  refine g_callS (gs' := [AI cy 107 g0 w0]) (rest := []) X dX8_canWeigh_3 (c_X8_isWeighing l D cy ad g0 w0 p1 p2 hq980) mf_X8_isWeighing ms_X8_isWeighing lkm_X8_90 ⟨(Nat.le_of_ble_eq_true rfl), (Nat.le_of_ble_eq_true rfl), (Nat.le_of_ble_eq_true rfl), (Nat.le_of_ble_eq_true rfl)⟩ [0] _ (by decide : [0].Perm (List.range 1)) rfl (by decide : [0].Perm (List.range 1)) rfl (Nat.le_of_ble_eq_true rfl) rfl ?_
  refine g_if_eq X 21 dX8_canWeigh_6 (by decide) (fun c982 => ?_) (fun c982 => ?_)
  · have hf := opos c982 hf
    refine g_iconst X (0 : Int32) dX8_canWeigh_21 (by decide) ?_
    have hf := Option.some.inj hf
    subst hf
    exact g_zret (b := false) X hr dX8_canWeigh_22
  · have hf := oneg c982 hf
    refine g_aload_n X dX8_canWeigh_9 0 rfl rfl ?_
    refine g_iconst X (4 : Int32) dX8_canWeigh_10 (by decide) ?_
    refine g_iaload X dX8_canWeigh_11 0 0 rfl rfl (by decide) ?_
    refine g_bipush X (20 : Int32) dX8_canWeigh_12 (by decide) ?_
    refine g_icmp_ge X 21 dX8_canWeigh_14 (by decide) (fun c981 => ?_) (fun c981 => ?_)
    · have hf := opos c981 hf
      refine g_iconst X (0 : Int32) dX8_canWeigh_21 (by decide) ?_
      have hf := Option.some.inj hf
      subst hf
      exact g_zret (b := false) X hr dX8_canWeigh_22
    · have hf := oneg c981 hf
      refine g_iconst X (1 : Int32) dX8_canWeigh_17 (by decide) ?_
      refine g_goto X 22 dX8_canWeigh_18 (by decide) ?_
      have hf := Option.some.inj hf
      subst hf
      exact g_zret (b := true) X hr dX8_canWeigh_22
abbrev rmX8_weighOn : Room := ({ frames := 3, cells := 0, slots := 0, locals := 70 } : Room)
def f_X8_weighOn (w0 : Fn) (p1 : Int32) (p2 : Int32) : Option (Int32 × Fn) :=
  (f_X8_at (w0 (4 : Int32).toNatClampNeg)).bind (fun q999 => if q999 < 0 ∨ 107 ≤ q999.toNatClampNeg then none else if (q999 + (1 : Int32)) < 0 ∨ 107 ≤ (q999 + (1 : Int32)).toNatClampNeg then none else (f_X8_outcome p1 p2 ((upd (upd w0 q999.toNatClampNeg p1) (q999 + (1 : Int32)).toNatClampNeg p2) (2 : Int32).toNatClampNeg) ((upd (upd w0 q999.toNatClampNeg p1) (q999 + (1 : Int32)).toNatClampNeg p2) (3 : Int32).toNatClampNeg) ((upd (upd w0 q999.toNatClampNeg p1) (q999 + (1 : Int32)).toNatClampNeg p2) (1 : Int32).toNatClampNeg)).bind (fun q1002 => if (q999 + (2 : Int32)) < 0 ∨ 107 ≤ (q999 + (2 : Int32)).toNatClampNeg then none else if (q999 + (3 : Int32)) < 0 ∨ 107 ≤ (q999 + (3 : Int32)).toNatClampNeg then none else if (q999 + (4 : Int32)) < 0 ∨ 107 ≤ (q999 + (4 : Int32)).toNatClampNeg then none else if (q999 + (2 : Int32)) < 0 ∨ 107 ≤ (q999 + (2 : Int32)).toNatClampNeg then none else some (((upd (upd (upd (upd (upd (upd w0 q999.toNatClampNeg p1) (q999 + (1 : Int32)).toNatClampNeg p2) (q999 + (2 : Int32)).toNatClampNeg q1002) (q999 + (3 : Int32)).toNatClampNeg ((upd (upd (upd w0 q999.toNatClampNeg p1) (q999 + (1 : Int32)).toNatClampNeg p2) (q999 + (2 : Int32)).toNatClampNeg q1002) (2 : Int32).toNatClampNeg)) (q999 + (4 : Int32)).toNatClampNeg ((upd (upd (upd (upd w0 q999.toNatClampNeg p1) (q999 + (1 : Int32)).toNatClampNeg p2) (q999 + (2 : Int32)).toNatClampNeg q1002) (q999 + (3 : Int32)).toNatClampNeg ((upd (upd (upd w0 q999.toNatClampNeg p1) (q999 + (1 : Int32)).toNatClampNeg p2) (q999 + (2 : Int32)).toNatClampNeg q1002) (2 : Int32).toNatClampNeg)) (3 : Int32).toNatClampNeg)) (4 : Int32).toNatClampNeg (((upd (upd (upd (upd (upd w0 q999.toNatClampNeg p1) (q999 + (1 : Int32)).toNatClampNeg p2) (q999 + (2 : Int32)).toNatClampNeg q1002) (q999 + (3 : Int32)).toNatClampNeg ((upd (upd (upd w0 q999.toNatClampNeg p1) (q999 + (1 : Int32)).toNatClampNeg p2) (q999 + (2 : Int32)).toNatClampNeg q1002) (2 : Int32).toNatClampNeg)) (q999 + (4 : Int32)).toNatClampNeg ((upd (upd (upd (upd w0 q999.toNatClampNeg p1) (q999 + (1 : Int32)).toNatClampNeg p2) (q999 + (2 : Int32)).toNatClampNeg q1002) (q999 + (3 : Int32)).toNatClampNeg ((upd (upd (upd w0 q999.toNatClampNeg p1) (q999 + (1 : Int32)).toNatClampNeg p2) (q999 + (2 : Int32)).toNatClampNeg q1002) (2 : Int32).toNatClampNeg)) (3 : Int32).toNatClampNeg)) (4 : Int32).toNatClampNeg) + (1 : Int32))) (q999 + (2 : Int32)).toNatClampNeg), (upd (upd (upd (upd (upd (upd w0 q999.toNatClampNeg p1) (q999 + (1 : Int32)).toNatClampNeg p2) (q999 + (2 : Int32)).toNatClampNeg q1002) (q999 + (3 : Int32)).toNatClampNeg ((upd (upd (upd w0 q999.toNatClampNeg p1) (q999 + (1 : Int32)).toNatClampNeg p2) (q999 + (2 : Int32)).toNatClampNeg q1002) (2 : Int32).toNatClampNeg)) (q999 + (4 : Int32)).toNatClampNeg ((upd (upd (upd (upd w0 q999.toNatClampNeg p1) (q999 + (1 : Int32)).toNatClampNeg p2) (q999 + (2 : Int32)).toNatClampNeg q1002) (q999 + (3 : Int32)).toNatClampNeg ((upd (upd (upd w0 q999.toNatClampNeg p1) (q999 + (1 : Int32)).toNatClampNeg p2) (q999 + (2 : Int32)).toNatClampNeg q1002) (2 : Int32).toNatClampNeg)) (3 : Int32).toNatClampNeg)) (4 : Int32).toNatClampNeg (((upd (upd (upd (upd (upd w0 q999.toNatClampNeg p1) (q999 + (1 : Int32)).toNatClampNeg p2) (q999 + (2 : Int32)).toNatClampNeg q1002) (q999 + (3 : Int32)).toNatClampNeg ((upd (upd (upd w0 q999.toNatClampNeg p1) (q999 + (1 : Int32)).toNatClampNeg p2) (q999 + (2 : Int32)).toNatClampNeg q1002) (2 : Int32).toNatClampNeg)) (q999 + (4 : Int32)).toNatClampNeg ((upd (upd (upd (upd w0 q999.toNatClampNeg p1) (q999 + (1 : Int32)).toNatClampNeg p2) (q999 + (2 : Int32)).toNatClampNeg q1002) (q999 + (3 : Int32)).toNatClampNeg ((upd (upd (upd w0 q999.toNatClampNeg p1) (q999 + (1 : Int32)).toNatClampNeg p2) (q999 + (2 : Int32)).toNatClampNeg q1002) (2 : Int32).toNatClampNeg)) (3 : Int32).toNatClampNeg)) (4 : Int32).toNatClampNeg) + (1 : Int32))))))
set_option maxRecDepth 100000 in
set_option maxHeartbeats 4000000 in
theorem c_X8_weighOn (l : Launch) (D : va_G) (cy : Nat → ClassId) (ad : (Nat → Nat) × (Nat → Nat)) (g0 : Nat) (w0 : Fn) (p1 : Int32) (p2 : Int32) {q : Int32 × Fn} (hf : f_X8_weighOn w0 p1 p2 = some q) : CM l yX8_weighOn cX8_weighOn 4 (some .int) rmX8_weighOn D cy ad [.ref g0, .int p1, .int p2] [AI cy 107 g0 w0] (some (.int q.1)) [AI cy 107 g0 q.2] := by
  refine cm_of (lv0 := [(0, .ref g0), (1, .int p1), (2, .int p2)]) (by decide) (Nat.le_of_ble_eq_true rfl) rfl ?_
  intro p e s m args below meth c A X hr hn
  have X : gK p s m args meth c A D cy ad cX8_weighOn 4 RX8 := X
  unfold f_X8_weighOn at hf
  refine g_aload_n X dX8_weighOn_0 0 rfl rfl ?_
  refine g_iconst X (4 : Int32) dX8_weighOn_1 (by decide) ?_
  refine g_iaload X dX8_weighOn_2 0 0 rfl rfl (by decide) ?_
  obtain ⟨q999, hq999, hf⟩ := obind hf
  refine g_callS (gs' := [AI cy 107 g0 w0]) (rest := []) X dX8_weighOn_3 (c_X8_at l D cy ad (w0 (4 : Int32).toNatClampNeg) hq999) mf_X8_at ms_X8_at lkm_X8_65 ⟨(Nat.le_of_ble_eq_true rfl), (Nat.le_of_ble_eq_true rfl), (Nat.le_of_ble_eq_true rfl), (Nat.le_of_ble_eq_true rfl)⟩ [0] _ (by decide : [0].Perm (List.range 1)) rfl (by decide : [0].Perm (List.range 1)) rfl (Nat.le_of_ble_eq_true rfl) rfl ?_
  refine g_istore_n (lv' := [(0, .ref g0), (1, .int p1), (2, .int p2), (3, .int q999)]) X dX8_weighOn_6 [1, 2, 3, 0] rfl (Nat.le_of_ble_eq_true rfl) rfl ?_
  refine g_aload_n X dX8_weighOn_7 0 rfl rfl ?_
  refine g_iload_n X dX8_weighOn_8 3 rfl rfl ?_
  refine g_iload_n X dX8_weighOn_9 1 rfl rfl ?_
  obtain ⟨n1000, hf⟩ := oguard hf
  refine g_iastore (gs' := [AI cy 107 g0 (upd w0 q999.toNatClampNeg p1)]) X dX8_weighOn_10 0 0 rfl rfl n1000 rfl ?_
  refine g_aload_n X dX8_weighOn_11 0 rfl rfl ?_
  refine g_iload_n X dX8_weighOn_12 3 rfl rfl ?_
  refine g_iconst X (1 : Int32) dX8_weighOn_13 (by decide) ?_
  refine g_iadd X dX8_weighOn_14 ?_
  refine g_iload_n X dX8_weighOn_15 2 rfl rfl ?_
  obtain ⟨n1001, hf⟩ := oguard hf
  refine g_iastore (gs' := [AI cy 107 g0 (upd (upd w0 q999.toNatClampNeg p1) (q999 + (1 : Int32)).toNatClampNeg p2)]) X dX8_weighOn_16 0 0 rfl rfl n1001 rfl ?_
  refine g_aload_n X dX8_weighOn_17 0 rfl rfl ?_
  refine g_iload_n X dX8_weighOn_18 3 rfl rfl ?_
  refine g_iconst X (2 : Int32) dX8_weighOn_19 (by decide) ?_
  refine g_iadd X dX8_weighOn_20 ?_
  refine g_iload_n X dX8_weighOn_21 1 rfl rfl ?_
  refine g_iload_n X dX8_weighOn_22 2 rfl rfl ?_
  refine g_aload_n X dX8_weighOn_23 0 rfl rfl ?_
  refine g_iconst X (2 : Int32) dX8_weighOn_24 (by decide) ?_
  refine g_iaload X dX8_weighOn_25 0 0 rfl rfl (by decide) ?_
  refine g_aload_n X dX8_weighOn_26 0 rfl rfl ?_
  refine g_iconst X (3 : Int32) dX8_weighOn_27 (by decide) ?_
  refine g_iaload X dX8_weighOn_28 0 0 rfl rfl (by decide) ?_
  refine g_aload_n X dX8_weighOn_29 0 rfl rfl ?_
  refine g_iconst X (1 : Int32) dX8_weighOn_30 (by decide) ?_
  refine g_iaload X dX8_weighOn_31 0 0 rfl rfl (by decide) ?_
  obtain ⟨q1002, hq1002, hf⟩ := obind hf
  refine g_callS (gs' := [AI cy 107 g0 (upd (upd w0 q999.toNatClampNeg p1) (q999 + (1 : Int32)).toNatClampNeg p2)]) (rest := [.int (q999 + (2 : Int32)), .ref g0]) X dX8_weighOn_32 (c_X8_outcome l D cy ad p1 p2 ((upd (upd w0 q999.toNatClampNeg p1) (q999 + (1 : Int32)).toNatClampNeg p2) (2 : Int32).toNatClampNeg) ((upd (upd w0 q999.toNatClampNeg p1) (q999 + (1 : Int32)).toNatClampNeg p2) (3 : Int32).toNatClampNeg) ((upd (upd w0 q999.toNatClampNeg p1) (q999 + (1 : Int32)).toNatClampNeg p2) (1 : Int32).toNatClampNeg) hq1002) mf_X8_outcome ms_X8_outcome lkm_X8_68 ⟨(Nat.le_of_ble_eq_true rfl), (Nat.le_of_ble_eq_true rfl), (Nat.le_of_ble_eq_true rfl), (Nat.le_of_ble_eq_true rfl)⟩ [0] _ (by decide : [0].Perm (List.range 1)) rfl (by decide : [0].Perm (List.range 1)) rfl (Nat.le_of_ble_eq_true rfl) rfl ?_
  obtain ⟨n1003, hf⟩ := oguard hf
  refine g_iastore (gs' := [AI cy 107 g0 (upd (upd (upd w0 q999.toNatClampNeg p1) (q999 + (1 : Int32)).toNatClampNeg p2) (q999 + (2 : Int32)).toNatClampNeg q1002)]) X dX8_weighOn_35 0 0 rfl rfl n1003 rfl ?_
  refine g_aload_n X dX8_weighOn_36 0 rfl rfl ?_
  refine g_iload_n X dX8_weighOn_37 3 rfl rfl ?_
  refine g_iconst X (3 : Int32) dX8_weighOn_38 (by decide) ?_
  refine g_iadd X dX8_weighOn_39 ?_
  refine g_aload_n X dX8_weighOn_40 0 rfl rfl ?_
  refine g_iconst X (2 : Int32) dX8_weighOn_41 (by decide) ?_
  refine g_iaload X dX8_weighOn_42 0 0 rfl rfl (by decide) ?_
  obtain ⟨n1004, hf⟩ := oguard hf
  refine g_iastore (gs' := [AI cy 107 g0 (upd (upd (upd (upd w0 q999.toNatClampNeg p1) (q999 + (1 : Int32)).toNatClampNeg p2) (q999 + (2 : Int32)).toNatClampNeg q1002) (q999 + (3 : Int32)).toNatClampNeg ((upd (upd (upd w0 q999.toNatClampNeg p1) (q999 + (1 : Int32)).toNatClampNeg p2) (q999 + (2 : Int32)).toNatClampNeg q1002) (2 : Int32).toNatClampNeg))]) X dX8_weighOn_43 0 0 rfl rfl n1004 rfl ?_
  refine g_aload_n X dX8_weighOn_44 0 rfl rfl ?_
  refine g_iload_n X dX8_weighOn_45 3 rfl rfl ?_
  refine g_iconst X (4 : Int32) dX8_weighOn_46 (by decide) ?_
  refine g_iadd X dX8_weighOn_47 ?_
  refine g_aload_n X dX8_weighOn_48 0 rfl rfl ?_
  refine g_iconst X (3 : Int32) dX8_weighOn_49 (by decide) ?_
  refine g_iaload X dX8_weighOn_50 0 0 rfl rfl (by decide) ?_
  obtain ⟨n1005, hf⟩ := oguard hf
  refine g_iastore (gs' := [AI cy 107 g0 (upd (upd (upd (upd (upd w0 q999.toNatClampNeg p1) (q999 + (1 : Int32)).toNatClampNeg p2) (q999 + (2 : Int32)).toNatClampNeg q1002) (q999 + (3 : Int32)).toNatClampNeg ((upd (upd (upd w0 q999.toNatClampNeg p1) (q999 + (1 : Int32)).toNatClampNeg p2) (q999 + (2 : Int32)).toNatClampNeg q1002) (2 : Int32).toNatClampNeg)) (q999 + (4 : Int32)).toNatClampNeg ((upd (upd (upd (upd w0 q999.toNatClampNeg p1) (q999 + (1 : Int32)).toNatClampNeg p2) (q999 + (2 : Int32)).toNatClampNeg q1002) (q999 + (3 : Int32)).toNatClampNeg ((upd (upd (upd w0 q999.toNatClampNeg p1) (q999 + (1 : Int32)).toNatClampNeg p2) (q999 + (2 : Int32)).toNatClampNeg q1002) (2 : Int32).toNatClampNeg)) (3 : Int32).toNatClampNeg))]) X dX8_weighOn_51 0 0 rfl rfl n1005 rfl ?_
  refine g_aload_n X dX8_weighOn_52 0 rfl rfl ?_
  refine g_iconst X (4 : Int32) dX8_weighOn_53 (by decide) ?_
  refine g_dup2 X dX8_weighOn_54 rfl rfl ?_
  refine g_iaload X dX8_weighOn_55 0 0 rfl rfl (by decide) ?_
  refine g_iconst X (1 : Int32) dX8_weighOn_56 (by decide) ?_
  refine g_iadd X dX8_weighOn_57 ?_
  refine g_iastore (gs' := [AI cy 107 g0 (upd (upd (upd (upd (upd (upd w0 q999.toNatClampNeg p1) (q999 + (1 : Int32)).toNatClampNeg p2) (q999 + (2 : Int32)).toNatClampNeg q1002) (q999 + (3 : Int32)).toNatClampNeg ((upd (upd (upd w0 q999.toNatClampNeg p1) (q999 + (1 : Int32)).toNatClampNeg p2) (q999 + (2 : Int32)).toNatClampNeg q1002) (2 : Int32).toNatClampNeg)) (q999 + (4 : Int32)).toNatClampNeg ((upd (upd (upd (upd w0 q999.toNatClampNeg p1) (q999 + (1 : Int32)).toNatClampNeg p2) (q999 + (2 : Int32)).toNatClampNeg q1002) (q999 + (3 : Int32)).toNatClampNeg ((upd (upd (upd w0 q999.toNatClampNeg p1) (q999 + (1 : Int32)).toNatClampNeg p2) (q999 + (2 : Int32)).toNatClampNeg q1002) (2 : Int32).toNatClampNeg)) (3 : Int32).toNatClampNeg)) (4 : Int32).toNatClampNeg (((upd (upd (upd (upd (upd w0 q999.toNatClampNeg p1) (q999 + (1 : Int32)).toNatClampNeg p2) (q999 + (2 : Int32)).toNatClampNeg q1002) (q999 + (3 : Int32)).toNatClampNeg ((upd (upd (upd w0 q999.toNatClampNeg p1) (q999 + (1 : Int32)).toNatClampNeg p2) (q999 + (2 : Int32)).toNatClampNeg q1002) (2 : Int32).toNatClampNeg)) (q999 + (4 : Int32)).toNatClampNeg ((upd (upd (upd (upd w0 q999.toNatClampNeg p1) (q999 + (1 : Int32)).toNatClampNeg p2) (q999 + (2 : Int32)).toNatClampNeg q1002) (q999 + (3 : Int32)).toNatClampNeg ((upd (upd (upd w0 q999.toNatClampNeg p1) (q999 + (1 : Int32)).toNatClampNeg p2) (q999 + (2 : Int32)).toNatClampNeg q1002) (2 : Int32).toNatClampNeg)) (3 : Int32).toNatClampNeg)) (4 : Int32).toNatClampNeg) + (1 : Int32)))]) X dX8_weighOn_58 0 0 rfl rfl (by decide) rfl ?_
  refine g_aload_n X dX8_weighOn_59 0 rfl rfl ?_
  refine g_iload_n X dX8_weighOn_60 3 rfl rfl ?_
  refine g_iconst X (2 : Int32) dX8_weighOn_61 (by decide) ?_
  refine g_iadd X dX8_weighOn_62 ?_
  obtain ⟨n1006, hf⟩ := oguard hf
  refine g_iaload X dX8_weighOn_63 0 0 rfl rfl n1006 ?_
  have hf := Option.some.inj hf
  subst hf
  exact g_iret X hr dX8_weighOn_64
abbrev rmX8_told : Room := ({ frames := 0, cells := 0, slots := 0, locals := 0 } : Room)
def f_X8_told_b11 (w0 : Fn) (x1 : Bool) (y0 : Int32) : Option (Int32 × Fn) :=
  if y0 < 0 ∨ 107 ≤ y0.toNatClampNeg then none else if y0 < 0 ∨ 107 ≤ y0.toNatClampNeg then none else if (b2i x1) = 0 then some ((0 : Int32), (upd w0 y0.toNatClampNeg ((w0 y0.toNatClampNeg) + (1 : Int32)))) else some ((1 : Int32), (upd w0 y0.toNatClampNeg ((w0 y0.toNatClampNeg) + (1 : Int32))))
set_option maxRecDepth 100000 in
set_option maxHeartbeats 4000000 in
theorem j_X8_told_b11 {p : Program} {l : Launch} {e : Env} {s : State} {m : MethodId} {args : Array Value} {below : List Frame} {meth : Method} {c : Code} {A : Nat → Prop} {D : va_G} {cy : Nat → ClassId} {ad : (Nat → Nat) × (Nat → Nat)} (X : gK p s m args meth c A D cy ad cX8_told 2 RX8) (hr : meth.sig.returnType = (some .int)) {g0 : Nat} (w0 : Fn) (x1 : Bool) (y0 : Int32) {q : Int32 × Fn} (hf : f_X8_told_b11 w0 x1 y0 = some q) : GW p l e rmX8_told s m args below meth c A D 2 0 0 (MQ below (cmQ D cy A (some (.int q.1)) ([AI cy 107 g0 q.2] : List va_W).flatten) args s 0 0 A) 11 [(1, .int (b2i x1))] [.int y0, .ref g0] [AI cy 107 g0 w0] := by
  unfold f_X8_told_b11 at hf
  refine g_dup2 X dX8_told_11 rfl rfl ?_
  obtain ⟨n1007, hf⟩ := oguard hf
  refine g_iaload X dX8_told_12 0 0 rfl rfl n1007 ?_
  refine g_iconst X (1 : Int32) dX8_told_13 (by decide) ?_
  refine g_iadd X dX8_told_14 ?_
  obtain ⟨n1008, hf⟩ := oguard hf
  refine g_iastore (gs' := [AI cy 107 g0 (upd w0 y0.toNatClampNeg ((w0 y0.toNatClampNeg) + (1 : Int32)))]) X dX8_told_15 0 0 rfl rfl n1008 rfl ?_
  refine g_iload_n X dX8_told_16 0 rfl rfl ?_
  refine g_if_eq X 24 dX8_told_17 (by decide) (fun c1009 => ?_) (fun c1009 => ?_)
  · have hf := opos c1009 hf
    refine g_iconst X (0 : Int32) dX8_told_24 (by decide) ?_
    have hf := Option.some.inj hf
    subst hf
    exact g_iret X hr dX8_told_25
  · have hf := oneg c1009 hf
    refine g_iconst X (1 : Int32) dX8_told_20 (by decide) ?_
    refine g_goto X 25 dX8_told_21 (by decide) ?_
    have hf := Option.some.inj hf
    subst hf
    exact g_iret X hr dX8_told_25
def f_X8_told (w0 : Fn) (p1 : Bool) : Option (Int32 × Fn) :=
  if (b2i p1) = 0 then f_X8_told_b11 w0 p1 (6 : Int32) else f_X8_told_b11 w0 p1 (5 : Int32)
set_option maxRecDepth 100000 in
set_option maxHeartbeats 4000000 in
theorem c_X8_told (l : Launch) (D : va_G) (cy : Nat → ClassId) (ad : (Nat → Nat) × (Nat → Nat)) (g0 : Nat) (w0 : Fn) (p1 : Bool) {q : Int32 × Fn} (hf : f_X8_told w0 p1 = some q) : CM l yX8_told cX8_told 2 (some .int) rmX8_told D cy ad [.ref g0, .int (b2i p1)] [AI cy 107 g0 w0] (some (.int q.1)) [AI cy 107 g0 q.2] := by
  refine cm_of (lv0 := [(0, .ref g0), (1, .int (b2i p1))]) (by decide) (Nat.le_of_ble_eq_true rfl) rfl ?_
  intro p e s m args below meth c A X hr hn
  have X : gK p s m args meth c A D cy ad cX8_told 2 RX8 := X
  unfold f_X8_told at hf
  refine g_aload_n X dX8_told_0 0 rfl rfl ?_
  refine g_iload_n X dX8_told_1 1 rfl rfl ?_
  refine g_if_eq X 9 dX8_told_2 (by decide) (fun c1010 => ?_) (fun c1010 => ?_)
  · have hf := opos c1010 hf
    refine g_bipush X (6 : Int32) dX8_told_9 (by decide) ?_
    refine g_sub [1] (lv' := [(1, .int (b2i p1))]) rfl ?_
    exact j_X8_told_b11 X hr w0 p1 (6 : Int32) hf
  · have hf := oneg c1010 hf
    refine g_iconst X (5 : Int32) dX8_told_5 (by decide) ?_
    refine g_goto X 11 dX8_told_6 (by decide) ?_
    refine g_sub [1] (lv' := [(1, .int (b2i p1))]) rfl ?_
    exact j_X8_told_b11 X hr w0 p1 (5 : Int32) hf
abbrev rmX8_accuseOn : Room := ({ frames := 1, cells := 0, slots := 0, locals := 21 } : Room)
def f_X8_accuseOn_b27 (w0 : Fn) (y0 : Bool) : Option (Int32 × Fn) :=
  (f_X8_told w0 y0).bind (fun q1013 => some (q1013.1, q1013.2))
set_option maxRecDepth 100000 in
set_option maxHeartbeats 4000000 in
theorem j_X8_accuseOn_b27 {p : Program} {l : Launch} {e : Env} {s : State} {m : MethodId} {args : Array Value} {below : List Frame} {meth : Method} {c : Code} {A : Nat → Prop} {D : va_G} {cy : Nat → ClassId} {ad : (Nat → Nat) × (Nat → Nat)} (X : gK p s m args meth c A D cy ad cX8_accuseOn 3 RX8) (hr : meth.sig.returnType = (some .int)) {g0 : Nat} (w0 : Fn) (y0 : Bool) {q : Int32 × Fn} (hf : f_X8_accuseOn_b27 w0 y0 = some q) : GW p l e rmX8_accuseOn s m args below meth c A D 3 0 0 (MQ below (cmQ D cy A (some (.int q.1)) ([AI cy 107 g0 q.2] : List va_W).flatten) args s 0 0 A) 27 [] [.int (b2i y0), .ref g0] [AI cy 107 g0 w0] := by
  unfold f_X8_accuseOn_b27 at hf
  obtain ⟨q1013, hq1013, hf⟩ := obind hf
  refine g_callS (gs' := [AI cy 107 g0 q1013.2]) (rest := []) X dX8_accuseOn_27 (c_X8_told l D cy ad g0 w0 y0 hq1013) mf_X8_told ms_X8_told lkm_X8_93 ⟨(Nat.le_of_ble_eq_true rfl), (Nat.le_of_ble_eq_true rfl), (Nat.le_of_ble_eq_true rfl), (Nat.le_of_ble_eq_true rfl)⟩ [0] _ (by decide : [0].Perm (List.range 1)) rfl (by decide : [0].Perm (List.range 1)) rfl (Nat.le_of_ble_eq_true rfl) rfl ?_
  have hf := Option.some.inj hf
  subst hf
  exact g_iret X hr dX8_accuseOn_30
def f_X8_accuseOn_b18 (w0 : Fn) (y0 : Bool) (y1 : Int32) (y2 : Int32) : Option (Int32 × Fn) :=
  if y2 = (y1 + (b2i y0)) then f_X8_accuseOn_b27 w0 true else f_X8_accuseOn_b27 w0 false
set_option maxRecDepth 100000 in
set_option maxHeartbeats 4000000 in
theorem j_X8_accuseOn_b18 {p : Program} {l : Launch} {e : Env} {s : State} {m : MethodId} {args : Array Value} {below : List Frame} {meth : Method} {c : Code} {A : Nat → Prop} {D : va_G} {cy : Nat → ClassId} {ad : (Nat → Nat) × (Nat → Nat)} (X : gK p s m args meth c A D cy ad cX8_accuseOn 3 RX8) (hr : meth.sig.returnType = (some .int)) {g0 : Nat} (w0 : Fn) (y0 : Bool) (y1 : Int32) (y2 : Int32) {q : Int32 × Fn} (hf : f_X8_accuseOn_b18 w0 y0 y1 y2 = some q) : GW p l e rmX8_accuseOn s m args below meth c A D 3 0 0 (MQ below (cmQ D cy A (some (.int q.1)) ([AI cy 107 g0 q.2] : List va_W).flatten) args s 0 0 A) 18 [] [.int (b2i y0), .int y1, .int y2, .ref g0] [AI cy 107 g0 w0] := by
  unfold f_X8_accuseOn_b18 at hf
  refine g_iadd X dX8_accuseOn_18 ?_
  refine g_icmp_ne X 26 dX8_accuseOn_19 (by decide) (fun c1014 => ?_) (fun c1014 => ?_)
  · have hf := oneg c1014 hf
    refine g_iconst X (0 : Int32) dX8_accuseOn_26 (by decide) ?_
    exact j_X8_accuseOn_b27 X hr w0 false hf
  · have hf := opos c1014 hf
    refine g_iconst X (1 : Int32) dX8_accuseOn_22 (by decide) ?_
    refine g_goto X 27 dX8_accuseOn_23 (by decide) ?_
    exact j_X8_accuseOn_b27 X hr w0 true hf
def f_X8_accuseOn (w0 : Fn) (p1 : Int32) (p2 : Bool) : Option (Int32 × Fn) :=
  if (b2i p2) = 0 then f_X8_accuseOn_b18 w0 false ((2 : Int32) * p1) ((w0 (1 : Int32).toNatClampNeg) / (3 : Int32)) else f_X8_accuseOn_b18 w0 true ((2 : Int32) * p1) ((w0 (1 : Int32).toNatClampNeg) / (3 : Int32))
set_option maxRecDepth 100000 in
set_option maxHeartbeats 4000000 in
theorem c_X8_accuseOn (l : Launch) (D : va_G) (cy : Nat → ClassId) (ad : (Nat → Nat) × (Nat → Nat)) (g0 : Nat) (w0 : Fn) (p1 : Int32) (p2 : Bool) {q : Int32 × Fn} (hf : f_X8_accuseOn w0 p1 p2 = some q) : CM l yX8_accuseOn cX8_accuseOn 3 (some .int) rmX8_accuseOn D cy ad [.ref g0, .int p1, .int (b2i p2)] [AI cy 107 g0 w0] (some (.int q.1)) [AI cy 107 g0 q.2] := by
  refine cm_of (lv0 := [(0, .ref g0), (1, .int p1), (2, .int (b2i p2))]) (by decide) (Nat.le_of_ble_eq_true rfl) rfl ?_
  intro p e s m args below meth c A X hr hn
  have X : gK p s m args meth c A D cy ad cX8_accuseOn 3 RX8 := X
  unfold f_X8_accuseOn at hf
  refine g_aload_n X dX8_accuseOn_0 0 rfl rfl ?_
  refine g_aload_n X dX8_accuseOn_1 0 rfl rfl ?_
  refine g_iconst X (1 : Int32) dX8_accuseOn_2 (by decide) ?_
  refine g_iaload X dX8_accuseOn_3 0 0 rfl rfl (by decide) ?_
  refine g_iconst X (3 : Int32) dX8_accuseOn_4 (by decide) ?_
  refine g_idiv X dX8_accuseOn_5 (by decide) ?_
  refine g_iconst X (2 : Int32) dX8_accuseOn_6 (by decide) ?_
  refine g_iload_n X dX8_accuseOn_7 1 rfl rfl ?_
  refine g_imul X dX8_accuseOn_8 ?_
  refine g_iload_n X dX8_accuseOn_9 2 rfl rfl ?_
  refine g_if_eq X 17 dX8_accuseOn_10 (by decide) (fun c1015 => ?_) (fun c1015 => ?_)
  · have hf := opos c1015 hf
    refine g_iconst X (0 : Int32) dX8_accuseOn_17 (by decide) ?_
    refine g_sub [] (lv' := []) rfl ?_
    exact j_X8_accuseOn_b18 X hr w0 false ((2 : Int32) * p1) ((w0 (1 : Int32).toNatClampNeg) / (3 : Int32)) hf
  · have hf := oneg c1015 hf
    refine g_iconst X (1 : Int32) dX8_accuseOn_13 (by decide) ?_
    refine g_goto X 18 dX8_accuseOn_14 (by decide) ?_
    refine g_sub [] (lv' := []) rfl ?_
    exact j_X8_accuseOn_b18 X hr w0 true ((2 : Int32) * p1) ((w0 (1 : Int32).toNatClampNeg) / (3 : Int32)) hf
abbrev rmX8_forgetOn : Room := ({ frames := 0, cells := 0, slots := 0, locals := 0 } : Room)
def f_X8_forgetOn (w0 : Fn) : Option (Int32 × Fn) :=
  some (((upd w0 (4 : Int32).toNatClampNeg ((w0 (4 : Int32).toNatClampNeg) - (1 : Int32))) (4 : Int32).toNatClampNeg), (upd w0 (4 : Int32).toNatClampNeg ((w0 (4 : Int32).toNatClampNeg) - (1 : Int32))))
set_option maxRecDepth 100000 in
set_option maxHeartbeats 4000000 in
theorem c_X8_forgetOn (l : Launch) (D : va_G) (cy : Nat → ClassId) (ad : (Nat → Nat) × (Nat → Nat)) (g0 : Nat) (w0 : Fn) {q : Int32 × Fn} (hf : f_X8_forgetOn w0 = some q) : CM l yX8_forgetOn cX8_forgetOn 1 (some .int) rmX8_forgetOn D cy ad [.ref g0] [AI cy 107 g0 w0] (some (.int q.1)) [AI cy 107 g0 q.2] := by
  refine cm_of (lv0 := [(0, .ref g0)]) (by decide) (Nat.le_of_ble_eq_true rfl) rfl ?_
  intro p e s m args below meth c A X hr hn
  have X : gK p s m args meth c A D cy ad cX8_forgetOn 1 RX8 := X
  unfold f_X8_forgetOn at hf
  refine g_aload_n X dX8_forgetOn_0 0 rfl rfl ?_
  refine g_iconst X (4 : Int32) dX8_forgetOn_1 (by decide) ?_
  refine g_dup2 X dX8_forgetOn_2 rfl rfl ?_
  refine g_iaload X dX8_forgetOn_3 0 0 rfl rfl (by decide) ?_
  refine g_iconst X (1 : Int32) dX8_forgetOn_4 (by decide) ?_
  refine g_isub X dX8_forgetOn_5 ?_
  refine g_iastore (gs' := [AI cy 107 g0 (upd w0 (4 : Int32).toNatClampNeg ((w0 (4 : Int32).toNatClampNeg) - (1 : Int32)))]) X dX8_forgetOn_6 0 0 rfl rfl (by decide) rfl ?_
  refine g_aload_n X dX8_forgetOn_7 0 rfl rfl ?_
  refine g_iconst X (4 : Int32) dX8_forgetOn_8 (by decide) ?_
  refine g_iaload X dX8_forgetOn_9 0 0 rfl rfl (by decide) ?_
  have hf := Option.some.inj hf
  subst hf
  exact g_iret X hr dX8_forgetOn_10
abbrev rmX8_append : Room := ({ frames := 1, cells := 0, slots := 0, locals := 25 } : Room)
def f_X8_append_b31 (v0 : MOv) (v1 : Fn) (x1 : Int32) (y0 : Int32) : Option (Int32 × MOv × Fn) :=
  (f_X8_refused v0 y0).bind (fun q1023 => if (b2i q1023.1) = 0 then if q1023.2.2.1 < 0 ∨ 120 ≤ q1023.2.2.1.toNatClampNeg then none else some ((q1023.2.2.1 + (1 : Int32)), (q1023.2.1, (q1023.2.2.1 + (1 : Int32)), q1023.2.2.2.1, q1023.2.2.2.2.1, q1023.2.2.2.2.2.1, q1023.2.2.2.2.2.2), (upd v1 q1023.2.2.1.toNatClampNeg x1)) else some ((0 : Int32), q1023.2, v1))
set_option maxRecDepth 100000 in
set_option maxHeartbeats 4000000 in
theorem j_X8_append_b31 {p : Program} {l : Launch} {e : Env} {s : State} {m : MethodId} {args : Array Value} {below : List Frame} {meth : Method} {c : Code} {A : Nat → Prop} {D : va_G} {cy : Nat → ClassId} {ad : (Nat → Nat) × (Nat → Nat)} (X : gK p s m args meth c A D cy ad cX8_append 2 RX8) (hr : meth.sig.returnType = (some .int)) {h0 h1 h2 h3 h4 h5 h6 h7 h8 : Nat} (v0 : MOv) (v1 : Fn) (x1 : Int32) (y0 : Int32) {q : Int32 × MOv × Fn} (hf : f_X8_append_b31 v0 v1 x1 y0 = some q) : GW p l e rmX8_append s m args below meth c A D 2 0 0 (MQ below (cmQ D cy A (some (.int q.1)) ([MO h0 h1 h2 h3 h4 h5 h6 h7 h8 q.2.1, AI cy 120 h1 q.2.2] : List va_W).flatten) args s 0 0 A) 31 [(0, .ref h0), (1, .int x1)] [.int y0, .ref h0] [MO h0 h1 h2 h3 h4 h5 h6 h7 h8 v0, AI cy 120 h1 v1] := by
  unfold f_X8_append_b31 at hf
  obtain ⟨q1023, hq1023, hf⟩ := obind hf
  refine g_callV (gs' := [MO h0 h1 h2 h3 h4 h5 h6 h7 h8 q1023.2, AI cy 120 h1 v1]) (rest := []) X dX8_append_31 (c_X8_refused l D cy ad h0 h1 h2 h3 h4 h5 h6 h7 h8 v0 y0 hq1023) mf_X8_refused mv_X8_refused lkm_X8_102 ⟨(Nat.le_of_ble_eq_true rfl), (Nat.le_of_ble_eq_true rfl), (Nat.le_of_ble_eq_true rfl), (Nat.le_of_ble_eq_true rfl)⟩ 0 0 rfl rfl rfl rfl [0, 1] _ (by decide : [0, 1].Perm (List.range 2)) rfl (by decide : [0, 1].Perm (List.range 2)) rfl (Nat.le_of_ble_eq_true rfl) rfl ?_
  refine g_if_eq X 39 dX8_append_34 (by decide) (fun c1025 => ?_) (fun c1025 => ?_)
  · have hf := opos c1025 hf
    refine g_aload_n X dX8_append_39 0 rfl rfl ?_
    refine g_get X dX8_append_40 ck_X8 0 0 1 rfl rfl (Nat.le_of_ble_eq_true rfl) lkf_X8_7 rfl ?_
    refine g_aload_n X dX8_append_43 0 rfl rfl ?_
    refine g_get X dX8_append_44 ck_X8 0 0 2 rfl rfl (Nat.le_of_ble_eq_true rfl) lkf_X8_99 rfl ?_
    refine g_iload_n X dX8_append_47 1 rfl rfl ?_
    obtain ⟨n1024, hf⟩ := oguard hf
    refine g_iastore (gs' := [MO h0 h1 h2 h3 h4 h5 h6 h7 h8 q1023.2, AI cy 120 h1 (upd v1 q1023.2.2.1.toNatClampNeg x1)]) X dX8_append_48 1 0 rfl rfl n1024 rfl ?_
    refine g_aload_n X dX8_append_49 0 rfl rfl ?_
    refine g_dup X dX8_append_50 rfl ?_
    refine g_get X dX8_append_51 ck_X8 0 0 2 rfl rfl (Nat.le_of_ble_eq_true rfl) lkf_X8_99 rfl ?_
    refine g_iconst X (1 : Int32) dX8_append_54 (by decide) ?_
    refine g_iadd X dX8_append_55 ?_
    refine g_put (gs' := [MO h0 h1 h2 h3 h4 h5 h6 h7 h8 (q1023.2.1, (q1023.2.2.1 + (1 : Int32)), q1023.2.2.2.1, q1023.2.2.2.2.1, q1023.2.2.2.2.2.1, q1023.2.2.2.2.2.2), AI cy 120 h1 (upd v1 q1023.2.2.1.toNatClampNeg x1)]) X dX8_append_56 ck_X8 ct_X8 0 0 2 rfl rfl (Nat.le_of_ble_eq_true rfl) lkf_X8_99 rfl rfl rfl (Nat.le_of_ble_eq_true rfl) rfl ?_
    refine g_aload_n X dX8_append_59 0 rfl rfl ?_
    refine g_get X dX8_append_60 ck_X8 0 0 2 rfl rfl (Nat.le_of_ble_eq_true rfl) lkf_X8_99 rfl ?_
    have hf := Option.some.inj hf
    subst hf
    exact g_iret X hr dX8_append_63
  · have hf := oneg c1025 hf
    refine g_iconst X (0 : Int32) dX8_append_37 (by decide) ?_
    have hf := Option.some.inj hf
    subst hf
    exact g_iret X hr dX8_append_38
def f_X8_append (v0 : MOv) (v1 : Fn) (p1 : Int32) : Option (Int32 × MOv × Fn) :=
  (f_X8_in (p1.toInt64) (0 : Int64) (255 : Int64)).bind (fun q1022 => if (b2i q1022) = 0 then f_X8_append_b31 v0 v1 p1 (1 : Int32) else if v0.2.1 = (120 : Int32) then f_X8_append_b31 v0 v1 p1 (2 : Int32) else f_X8_append_b31 v0 v1 p1 (0 : Int32))
set_option maxRecDepth 100000 in
set_option maxHeartbeats 4000000 in
theorem c_X8_append (l : Launch) (D : va_G) (cy : Nat → ClassId) (ad : (Nat → Nat) × (Nat → Nat)) (h0 : Nat) (h1 : Nat) (h2 : Nat) (h3 : Nat) (h4 : Nat) (h5 : Nat) (h6 : Nat) (h7 : Nat) (h8 : Nat) (v0 : MOv) (v1 : Fn) (p1 : Int32) {q : Int32 × MOv × Fn} (hf : f_X8_append v0 v1 p1 = some q) : CM l yX8_append cX8_append 2 (some .int) rmX8_append D cy ad [.ref h0, .int p1] [MO h0 h1 h2 h3 h4 h5 h6 h7 h8 v0, AI cy 120 h1 v1] (some (.int q.1)) [MO h0 h1 h2 h3 h4 h5 h6 h7 h8 q.2.1, AI cy 120 h1 q.2.2] := by
  refine cm_of (lv0 := [(0, .ref h0), (1, .int p1)]) (by decide) (Nat.le_of_ble_eq_true rfl) rfl ?_
  intro p e s m args below meth c A X hr hn
  have X : gK p s m args meth c A D cy ad cX8_append 2 RX8 := X
  unfold f_X8_append at hf
  refine g_aload_n X dX8_append_0 0 rfl rfl ?_
  refine g_iload_n X dX8_append_1 1 rfl rfl ?_
  refine g_i2l X dX8_append_2 ?_
  refine g_lconst X (0 : Int64) dX8_append_3 (by decide) ?_
  refine g_ldc2 X lkl_X8_97 dX8_append_4 ?_
  obtain ⟨q1022, hq1022, hf⟩ := obind hf
  refine g_callS (gs' := [MO h0 h1 h2 h3 h4 h5 h6 h7 h8 v0, AI cy 120 h1 v1]) (rest := [.ref h0]) X dX8_append_7 (c_X8_in l D cy ad (p1.toInt64) (0 : Int64) (255 : Int64) hq1022) mf_X8_in ms_X8_in lkm_X8_43 ⟨(Nat.le_of_ble_eq_true rfl), (Nat.le_of_ble_eq_true rfl), (Nat.le_of_ble_eq_true rfl), (Nat.le_of_ble_eq_true rfl)⟩ [0, 1] _ (by decide : [0, 1].Perm (List.range 2)) rfl (by decide : [0, 1].Perm (List.range 2)) rfl (Nat.le_of_ble_eq_true rfl) rfl ?_
  refine g_if_ne X 17 dX8_append_10 (by decide) (fun c1027 => ?_) (fun c1027 => ?_)
  · have hf := oneg c1027 hf
    refine g_aload_n X dX8_append_17 0 rfl rfl ?_
    refine g_get X dX8_append_18 ck_X8 0 0 2 rfl rfl (Nat.le_of_ble_eq_true rfl) lkf_X8_99 rfl ?_
    refine g_bipush X (120 : Int32) dX8_append_21 (by decide) ?_
    refine g_icmp_ne X 30 dX8_append_23 (by decide) (fun c1026 => ?_) (fun c1026 => ?_)
    · have hf := oneg c1026 hf
      refine g_iconst X (0 : Int32) dX8_append_30 (by decide) ?_
      exact j_X8_append_b31 X hr v0 v1 p1 (0 : Int32) hf
    · have hf := opos c1026 hf
      refine g_iconst X (2 : Int32) dX8_append_26 (by decide) ?_
      refine g_goto X 31 dX8_append_27 (by decide) ?_
      exact j_X8_append_b31 X hr v0 v1 p1 (2 : Int32) hf
  · have hf := opos c1027 hf
    refine g_iconst X (1 : Int32) dX8_append_13 (by decide) ?_
    refine g_goto X 31 dX8_append_14 (by decide) ?_
    exact j_X8_append_b31 X hr v0 v1 p1 (1 : Int32) hf
abbrev rmX8_clearText : Room := ({ frames := 0, cells := 0, slots := 0, locals := 0 } : Room)
def f_X8_clearText (v0 : MOv) : Option (Int32 × MOv) :=
  some (v0.2.1, ((0 : Int32), (0 : Int32), v0.2.2.1, v0.2.2.2.1, v0.2.2.2.2.1, v0.2.2.2.2.2))
set_option maxRecDepth 100000 in
set_option maxHeartbeats 4000000 in
theorem c_X8_clearText (l : Launch) (D : va_G) (cy : Nat → ClassId) (ad : (Nat → Nat) × (Nat → Nat)) (h0 : Nat) (h1 : Nat) (h2 : Nat) (h3 : Nat) (h4 : Nat) (h5 : Nat) (h6 : Nat) (h7 : Nat) (h8 : Nat) (v0 : MOv) {q : Int32 × MOv} (hf : f_X8_clearText v0 = some q) : CM l yX8_clearText cX8_clearText 2 (some .int) rmX8_clearText D cy ad [.ref h0] [MO h0 h1 h2 h3 h4 h5 h6 h7 h8 v0] (some (.int q.1)) [MO h0 h1 h2 h3 h4 h5 h6 h7 h8 q.2] := by
  refine cm_of (lv0 := [(0, .ref h0)]) (by decide) (Nat.le_of_ble_eq_true rfl) rfl ?_
  intro p e s m args below meth c A X hr hn
  have X : gK p s m args meth c A D cy ad cX8_clearText 2 RX8 := X
  unfold f_X8_clearText at hf
  refine g_aload_n X dX8_clearText_0 0 rfl rfl ?_
  refine g_iconst X (0 : Int32) dX8_clearText_1 (by decide) ?_
  refine g_put (gs' := [MO h0 h1 h2 h3 h4 h5 h6 h7 h8 ((0 : Int32), v0.2.1, v0.2.2.1, v0.2.2.2.1, v0.2.2.2.2.1, v0.2.2.2.2.2)]) X dX8_clearText_2 ck_X8 ct_X8 0 0 0 rfl rfl (Nat.le_of_ble_eq_true rfl) lkf_X8_39 rfl rfl rfl (Nat.le_of_ble_eq_true rfl) rfl ?_
  refine g_aload_n X dX8_clearText_5 0 rfl rfl ?_
  refine g_get X dX8_clearText_6 ck_X8 0 0 2 rfl rfl (Nat.le_of_ble_eq_true rfl) lkf_X8_99 rfl ?_
  refine g_istore_n (lv' := [(0, .ref h0), (1, .int v0.2.1)]) X dX8_clearText_9 [1, 0] rfl (Nat.le_of_ble_eq_true rfl) rfl ?_
  refine g_aload_n X dX8_clearText_10 0 rfl rfl ?_
  refine g_iconst X (0 : Int32) dX8_clearText_11 (by decide) ?_
  refine g_put (gs' := [MO h0 h1 h2 h3 h4 h5 h6 h7 h8 ((0 : Int32), (0 : Int32), v0.2.2.1, v0.2.2.2.1, v0.2.2.2.2.1, v0.2.2.2.2.2)]) X dX8_clearText_12 ck_X8 ct_X8 0 0 2 rfl rfl (Nat.le_of_ble_eq_true rfl) lkf_X8_99 rfl rfl rfl (Nat.le_of_ble_eq_true rfl) rfl ?_
  refine g_iload_n X dX8_clearText_15 1 rfl rfl ?_
  have hf := Option.some.inj hf
  subst hf
  exact g_iret X hr dX8_clearText_16
abbrev rmX8_sign : Room := ({ frames := 0, cells := 0, slots := 0, locals := 0 } : Room)
def f_X8_sign (v0 : MOv) (v1 : Fn) : Option (Int32) :=
  if v0.2.1 ≤ v0.2.2.2.2.1 then some (-1 : Int32) else if v0.2.2.2.2.1 < 0 ∨ 120 ≤ v0.2.2.2.2.1.toNatClampNeg then none else some (v1 v0.2.2.2.2.1.toNatClampNeg)
set_option maxRecDepth 100000 in
set_option maxHeartbeats 4000000 in
theorem c_X8_sign (l : Launch) (D : va_G) (cy : Nat → ClassId) (ad : (Nat → Nat) × (Nat → Nat)) (h0 : Nat) (h1 : Nat) (h2 : Nat) (h3 : Nat) (h4 : Nat) (h5 : Nat) (h6 : Nat) (h7 : Nat) (h8 : Nat) (v0 : MOv) (v1 : Fn) {q : Int32} (hf : f_X8_sign v0 v1 = some q) : CM l yX8_sign cX8_sign 1 (some .int) rmX8_sign D cy ad [.ref h0] [MO h0 h1 h2 h3 h4 h5 h6 h7 h8 v0, AI cy 120 h1 v1] (some (.int q)) [MO h0 h1 h2 h3 h4 h5 h6 h7 h8 v0, AI cy 120 h1 v1] := by
  refine cm_of (lv0 := [(0, .ref h0)]) (by decide) (Nat.le_of_ble_eq_true rfl) rfl ?_
  intro p e s m args below meth c A X hr hn
  have X : gK p s m args meth c A D cy ad cX8_sign 1 RX8 := X
  unfold f_X8_sign at hf
  refine g_aload_n X dX8_sign_0 0 rfl rfl ?_
  refine g_get X dX8_sign_1 ck_X8 0 0 12 rfl rfl (Nat.le_of_ble_eq_true rfl) lkf_X8_106 rfl ?_
  refine g_aload_n X dX8_sign_4 0 rfl rfl ?_
  refine g_get X dX8_sign_5 ck_X8 0 0 2 rfl rfl (Nat.le_of_ble_eq_true rfl) lkf_X8_99 rfl ?_
  refine g_icmp_ge X 23 dX8_sign_8 (by decide) (fun c1031 => ?_) (fun c1031 => ?_)
  · have hf := opos c1031 hf
    refine g_iconst X (-1 : Int32) dX8_sign_23 (by decide) ?_
    have hf := Option.some.inj hf
    subst hf
    exact g_iret X hr dX8_sign_24
  · have hf := oneg c1031 hf
    refine g_aload_n X dX8_sign_11 0 rfl rfl ?_
    refine g_get X dX8_sign_12 ck_X8 0 0 1 rfl rfl (Nat.le_of_ble_eq_true rfl) lkf_X8_7 rfl ?_
    refine g_aload_n X dX8_sign_15 0 rfl rfl ?_
    refine g_get X dX8_sign_16 ck_X8 0 0 12 rfl rfl (Nat.le_of_ble_eq_true rfl) lkf_X8_106 rfl ?_
    obtain ⟨n1030, hf⟩ := oguard hf
    refine g_iaload X dX8_sign_19 1 0 rfl rfl n1030 ?_
    refine g_goto X 24 dX8_sign_20 (by decide) ?_
    have hf := Option.some.inj hf
    subst hf
    exact g_iret X hr dX8_sign_24
abbrev rmX8_figures : Room := ({ frames := 1, cells := 0, slots := 0, locals := 25 } : Room)
def f_X8_figures_B16 (v1 : Fn) (x1 : Int32) (x3 : Int32) (x4 : Int32) (z : Int32 × Int32 × MOv) : Option ((Int32 × Int32 × MOv) ⊕ ((MOv) ⊕ (Int32 × MOv))) :=
  if z.2.1 ≤ 0 then some (.inr (.inr (z.1, z.2.2))) else if x1 = (-1 : Int32) then some (.inr (.inr (z.1, z.2.2))) else (f_X8_sign z.2.2 v1).bind (fun q1036 => (f_X8_in ((q1036 - (48 : Int32)).toInt64) (0 : Int64) (9 : Int64)).bind (fun q1037 => if (b2i q1037) = 0 then some (.inr (.inl (z.2.2))) else if x4 < (z.1 + ((q1036 - (48 : Int32)) * z.2.1)) then some (.inr (.inl (z.2.2))) else if x3 ≤ (((z.1 + ((q1036 - (48 : Int32)) * z.2.1)) + z.2.1) - (1 : Int32)) then some (.inl ((z.1 + ((q1036 - (48 : Int32)) * z.2.1)), (z.2.1 / (10 : Int32)), (z.2.2.1, z.2.2.2.1, z.2.2.2.2.1, z.2.2.2.2.2.1, (z.2.2.2.2.2.2.1 + (1 : Int32)), z.2.2.2.2.2.2.2))) else some (.inr (.inl (z.2.2)))))
set_option maxRecDepth 100000 in
set_option maxHeartbeats 4000000 in
theorem b_X8_figures_B16 {p : Program} {l : Launch} {e : Env} {s : State} {m : MethodId} {args : Array Value} {below : List Frame} {meth : Method} {c : Code} {A : Nat → Prop} {D : va_G} {cy : Nat → ClassId} {ad : (Nat → Nat) × (Nat → Nat)} {Q : State → Prop} (X : gK p s m args meth c A D cy ad cX8_figures 9 RX8) (hr : meth.sig.returnType = (some .int)) {h0 h1 h2 h3 h4 h5 h6 h7 h8 : Nat} (v1 : Fn) (x1 : Int32) (x3 : Int32) (x4 : Int32) (z : Int32 × Int32 × MOv) {q : (Int32 × Int32 × MOv) ⊕ ((MOv) ⊕ (Int32 × MOv))} (hf : f_X8_figures_B16 v1 x1 x3 x4 z = some q) (K1 : ∀ s' : Int32 × Int32 × MOv, q = .inl s' → GW p l e rmX8_figures s m args below meth c A D 9 0 0 Q 16 [(0, .ref h0), (1, .int x1), (3, .int x3), (4, .int x4), (5, .int s'.1), (6, .int s'.2.1)] [] [MO h0 h1 h2 h3 h4 h5 h6 h7 h8 (s'.2.2.1, s'.2.2.2.1, s'.2.2.2.2.1, s'.2.2.2.2.2.1, s'.2.2.2.2.2.2.1, s'.2.2.2.2.2.2.2), AI cy 120 h1 v1]) (K2 : ∀ e' : MOv, q = .inr (.inl e') → GW p l e rmX8_figures s m args below meth c A D 9 0 0 Q 76 [] [] [MO h0 h1 h2 h3 h4 h5 h6 h7 h8 (e'.1, e'.2.1, e'.2.2.1, e'.2.2.2.1, e'.2.2.2.2.1, e'.2.2.2.2.2), AI cy 120 h1 v1]) (K3 : ∀ e' : Int32 × MOv, q = .inr (.inr e') → GW p l e rmX8_figures s m args below meth c A D 9 0 0 Q 102 [(1, .int x1), (5, .int e'.1)] [] [MO h0 h1 h2 h3 h4 h5 h6 h7 h8 (e'.2.1, e'.2.2.1, e'.2.2.2.1, e'.2.2.2.2.1, e'.2.2.2.2.2.1, e'.2.2.2.2.2.2), AI cy 120 h1 v1]) : GW p l e rmX8_figures s m args below meth c A D 9 0 0 Q 16 [(0, .ref h0), (1, .int x1), (3, .int x3), (4, .int x4), (5, .int z.1), (6, .int z.2.1)] [] [MO h0 h1 h2 h3 h4 h5 h6 h7 h8 z.2.2, AI cy 120 h1 v1] := by
  unfold f_X8_figures_B16 at hf
  refine g_iload X dX8_figures_16 5 rfl ?_
  refine g_if_le X 102 dX8_figures_18 (by decide) (fun c1042 => ?_) (fun c1042 => ?_)
  · have hf := opos c1042 hf
    refine g_sub [1, 4] (lv' := [(1, .int x1), (5, .int z.1)]) rfl ?_
    exact K3 (z.1, z.2.2) (Option.some.inj hf).symm
  · have hf := oneg c1042 hf
    refine g_iload_n X dX8_figures_21 1 rfl rfl ?_
    refine g_iconst X (-1 : Int32) dX8_figures_22 (by decide) ?_
    refine g_icmp_eq X 102 dX8_figures_23 (by decide) (fun c1041 => ?_) (fun c1041 => ?_)
    · have hf := opos c1041 hf
      refine g_sub [1, 4] (lv' := [(1, .int x1), (5, .int z.1)]) rfl ?_
      exact K3 (z.1, z.2.2) (Option.some.inj hf).symm
    · have hf := oneg c1041 hf
      refine g_aload_n X dX8_figures_26 0 rfl rfl ?_
      obtain ⟨q1036, hq1036, hf⟩ := obind hf
      refine g_callV (gs' := [MO h0 h1 h2 h3 h4 h5 h6 h7 h8 z.2.2, AI cy 120 h1 v1]) (rest := []) X dX8_figures_27 (c_X8_sign l D cy ad h0 h1 h2 h3 h4 h5 h6 h7 h8 z.2.2 v1 hq1036) mf_X8_sign mv_X8_sign lkm_X8_109 ⟨(Nat.le_of_ble_eq_true rfl), (Nat.le_of_ble_eq_true rfl), (Nat.le_of_ble_eq_true rfl), (Nat.le_of_ble_eq_true rfl)⟩ 0 0 rfl rfl rfl rfl [0, 1] _ (by decide : [0, 1].Perm (List.range 2)) rfl (by decide : [0, 1].Perm (List.range 2)) rfl (Nat.le_of_ble_eq_true rfl) rfl ?_
      refine g_bipush X (48 : Int32) dX8_figures_30 (by decide) ?_
      refine g_isub X dX8_figures_32 ?_
      refine g_istore (lv' := [(0, .ref h0), (1, .int x1), (3, .int x3), (4, .int x4), (5, .int z.1), (6, .int z.2.1), (7, .int (q1036 - (48 : Int32)))]) X dX8_figures_33 [1, 2, 3, 4, 5, 6, 0] (Nat.le_of_ble_eq_true rfl) rfl ?_
      refine g_iload X dX8_figures_35 4 rfl ?_
      refine g_iload X dX8_figures_37 6 rfl ?_
      refine g_iload X dX8_figures_39 5 rfl ?_
      refine g_imul X dX8_figures_41 ?_
      refine g_iadd X dX8_figures_42 ?_
      refine g_istore (lv' := [(0, .ref h0), (1, .int x1), (3, .int x3), (4, .int x4), (5, .int z.1), (6, .int z.2.1), (7, .int (q1036 - (48 : Int32))), (8, .int (z.1 + ((q1036 - (48 : Int32)) * z.2.1)))]) X dX8_figures_43 [1, 2, 3, 4, 5, 6, 7, 0] (Nat.le_of_ble_eq_true rfl) rfl ?_
      refine g_iload X dX8_figures_45 6 rfl ?_
      refine g_i2l X dX8_figures_47 ?_
      refine g_lconst X (0 : Int64) dX8_figures_48 (by decide) ?_
      refine g_ldc2 X lkl_X8_113 dX8_figures_49 ?_
      obtain ⟨q1037, hq1037, hf⟩ := obind hf
      refine g_callS (gs' := [MO h0 h1 h2 h3 h4 h5 h6 h7 h8 z.2.2, AI cy 120 h1 v1]) (rest := []) X dX8_figures_52 (c_X8_in l D cy ad ((q1036 - (48 : Int32)).toInt64) (0 : Int64) (9 : Int64) hq1037) mf_X8_in ms_X8_in lkm_X8_43 ⟨(Nat.le_of_ble_eq_true rfl), (Nat.le_of_ble_eq_true rfl), (Nat.le_of_ble_eq_true rfl), (Nat.le_of_ble_eq_true rfl)⟩ [0, 1] _ (by decide : [0, 1].Perm (List.range 2)) rfl (by decide : [0, 1].Perm (List.range 2)) rfl (Nat.le_of_ble_eq_true rfl) rfl ?_
      refine g_if_eq X 76 dX8_figures_55 (by decide) (fun c1040 => ?_) (fun c1040 => ?_)
      · have hf := opos c1040 hf
        refine g_sub [] (lv' := []) rfl ?_
        exact K2 (z.2.2) (Option.some.inj hf).symm
      · have hf := oneg c1040 hf
        refine g_iload X dX8_figures_58 7 rfl ?_
        refine g_iload X dX8_figures_60 3 rfl ?_
        refine g_icmp_gt X 76 dX8_figures_62 (by decide) (fun c1039 => ?_) (fun c1039 => ?_)
        · have hf := opos c1039 hf
          refine g_sub [] (lv' := []) rfl ?_
          exact K2 (z.2.2) (Option.some.inj hf).symm
        · have hf := oneg c1039 hf
          refine g_iload X dX8_figures_65 7 rfl ?_
          refine g_iload X dX8_figures_67 5 rfl ?_
          refine g_iadd X dX8_figures_69 ?_
          refine g_iconst X (1 : Int32) dX8_figures_70 (by decide) ?_
          refine g_isub X dX8_figures_71 ?_
          refine g_iload_n X dX8_figures_72 2 rfl rfl ?_
          refine g_icmp_ge X 78 dX8_figures_73 (by decide) (fun c1038 => ?_) (fun c1038 => ?_)
          · have hf := opos c1038 hf
            refine g_iload X dX8_figures_78 7 rfl ?_
            refine g_istore (lv' := [(0, .ref h0), (1, .int x1), (3, .int x3), (4, .int x4), (5, .int (z.1 + ((q1036 - (48 : Int32)) * z.2.1))), (6, .int z.2.1), (7, .int (q1036 - (48 : Int32))), (8, .int (z.1 + ((q1036 - (48 : Int32)) * z.2.1)))]) X dX8_figures_80 [1, 2, 3, 4, 0, 5, 6, 7] (Nat.le_of_ble_eq_true rfl) rfl ?_
            refine g_aload_n X dX8_figures_82 0 rfl rfl ?_
            refine g_dup X dX8_figures_83 rfl ?_
            refine g_get X dX8_figures_84 ck_X8 0 0 12 rfl rfl (Nat.le_of_ble_eq_true rfl) lkf_X8_106 rfl ?_
            refine g_iconst X (1 : Int32) dX8_figures_87 (by decide) ?_
            refine g_iadd X dX8_figures_88 ?_
            refine g_put (gs' := [MO h0 h1 h2 h3 h4 h5 h6 h7 h8 (z.2.2.1, z.2.2.2.1, z.2.2.2.2.1, z.2.2.2.2.2.1, (z.2.2.2.2.2.2.1 + (1 : Int32)), z.2.2.2.2.2.2.2), AI cy 120 h1 v1]) X dX8_figures_89 ck_X8 ct_X8 0 0 12 rfl rfl (Nat.le_of_ble_eq_true rfl) lkf_X8_106 rfl rfl rfl (Nat.le_of_ble_eq_true rfl) rfl ?_
            refine g_iload X dX8_figures_92 5 rfl ?_
            refine g_bipush X (10 : Int32) dX8_figures_94 (by decide) ?_
            refine g_idiv X dX8_figures_96 (by decide) ?_
            refine g_istore (lv' := [(0, .ref h0), (1, .int x1), (3, .int x3), (4, .int x4), (5, .int (z.1 + ((q1036 - (48 : Int32)) * z.2.1))), (6, .int (z.2.1 / (10 : Int32))), (7, .int (q1036 - (48 : Int32))), (8, .int (z.1 + ((q1036 - (48 : Int32)) * z.2.1)))]) X dX8_figures_97 [1, 2, 3, 4, 5, 0, 6, 7] (Nat.le_of_ble_eq_true rfl) rfl ?_
            refine g_goto X 16 dX8_figures_99 (by decide) ?_
            refine g_sub [0, 1, 2, 3, 4, 5] (lv' := [(0, .ref h0), (1, .int x1), (3, .int x3), (4, .int x4), (5, .int (z.1 + ((q1036 - (48 : Int32)) * z.2.1))), (6, .int (z.2.1 / (10 : Int32)))]) rfl ?_
            exact K1 ((z.1 + ((q1036 - (48 : Int32)) * z.2.1)), (z.2.1 / (10 : Int32)), (z.2.2.1, z.2.2.2.1, z.2.2.2.2.1, z.2.2.2.2.2.1, (z.2.2.2.2.2.2.1 + (1 : Int32)), z.2.2.2.2.2.2.2)) (Option.some.inj hf).symm
          · have hf := oneg c1038 hf
            refine g_sub [] (lv' := []) rfl ?_
            exact K2 (z.2.2) (Option.some.inj hf).symm
set_option maxRecDepth 100000 in
set_option maxHeartbeats 4000000 in
theorem w_X8_figures_B16 {p : Program} {l : Launch} {e : Env} {s : State} {m : MethodId} {args : Array Value} {below : List Frame} {meth : Method} {c : Code} {A : Nat → Prop} {D : va_G} {cy : Nat → ClassId} {ad : (Nat → Nat) × (Nat → Nat)} {Q : State → Prop} (X : gK p s m args meth c A D cy ad cX8_figures 9 RX8) (hr : meth.sig.returnType = (some .int)) {h0 h1 h2 h3 h4 h5 h6 h7 h8 : Nat} (v1 : Fn) (x1 : Int32) (x3 : Int32) (x4 : Int32) {n : Nat} {z : Int32 × Int32 × MOv} {q : (MOv) ⊕ (Int32 × MOv)} (hf : itl (f_X8_figures_B16 v1 x1 x3 x4) n z = some q) (K2 : ∀ e' : MOv, q = .inl e' → GW p l e rmX8_figures s m args below meth c A D 9 0 0 Q 76 [] [] [MO h0 h1 h2 h3 h4 h5 h6 h7 h8 (e'.1, e'.2.1, e'.2.2.1, e'.2.2.2.1, e'.2.2.2.2.1, e'.2.2.2.2.2), AI cy 120 h1 v1]) (K3 : ∀ e' : Int32 × MOv, q = .inr e' → GW p l e rmX8_figures s m args below meth c A D 9 0 0 Q 102 [(1, .int x1), (5, .int e'.1)] [] [MO h0 h1 h2 h3 h4 h5 h6 h7 h8 (e'.2.1, e'.2.2.1, e'.2.2.2.1, e'.2.2.2.2.1, e'.2.2.2.2.2.1, e'.2.2.2.2.2.2), AI cy 120 h1 v1]) : GW p l e rmX8_figures s m args below meth c A D 9 0 0 Q 16 [(0, .ref h0), (1, .int x1), (3, .int x3), (4, .int x4), (5, .int z.1), (6, .int z.2.1)] [] [MO h0 h1 h2 h3 h4 h5 h6 h7 h8 z.2.2, AI cy 120 h1 v1] :=
  itl_ind (f := f_X8_figures_B16 v1 x1 x3 x4) (I := fun z => GW p l e rmX8_figures s m args below meth c A D 9 0 0 Q 16 [(0, .ref h0), (1, .int x1), (3, .int x3), (4, .int x4), (5, .int z.1), (6, .int z.2.1)] [] [MO h0 h1 h2 h3 h4 h5 h6 h7 h8 z.2.2, AI cy 120 h1 v1]) (J := (fun q => (∀ e' : MOv, q = .inl e' → GW p l e rmX8_figures s m args below meth c A D 9 0 0 Q 76 [] [] [MO h0 h1 h2 h3 h4 h5 h6 h7 h8 (e'.1, e'.2.1, e'.2.2.1, e'.2.2.2.1, e'.2.2.2.2.1, e'.2.2.2.2.2), AI cy 120 h1 v1]) ∧ (∀ e' : Int32 × MOv, q = .inr e' → GW p l e rmX8_figures s m args below meth c A D 9 0 0 Q 102 [(1, .int x1), (5, .int e'.1)] [] [MO h0 h1 h2 h3 h4 h5 h6 h7 h8 (e'.2.1, e'.2.2.1, e'.2.2.2.1, e'.2.2.2.2.1, e'.2.2.2.2.2.1, e'.2.2.2.2.2.2), AI cy 120 h1 v1]))) (fun z x h k1 k2 => b_X8_figures_B16 X hr v1 x1 x3 x4 z h (fun s' hs => k1 s' hs) (fun e' he => (k2 _ he).1 e' rfl) (fun e' he => (k2 _ he).2 e' rfl)) n z q hf ⟨K2, K3⟩
def f_X8_figures_b102 (v0 : MOv) (v1 : Fn) (x1 : Int32) (x5 : Int32) : Option (Int32 × MOv) :=
  if x1 = (-1 : Int32) then some ((-1 : Int32), v0) else some (x5, v0)
set_option maxRecDepth 100000 in
set_option maxHeartbeats 4000000 in
theorem j_X8_figures_b102 {p : Program} {l : Launch} {e : Env} {s : State} {m : MethodId} {args : Array Value} {below : List Frame} {meth : Method} {c : Code} {A : Nat → Prop} {D : va_G} {cy : Nat → ClassId} {ad : (Nat → Nat) × (Nat → Nat)} (X : gK p s m args meth c A D cy ad cX8_figures 9 RX8) (hr : meth.sig.returnType = (some .int)) {h0 h1 h2 h3 h4 h5 h6 h7 h8 : Nat} (v0 : MOv) (v1 : Fn) (x1 : Int32) (x5 : Int32) {q : Int32 × MOv} (hf : f_X8_figures_b102 v0 v1 x1 x5 = some q) : GW p l e rmX8_figures s m args below meth c A D 9 0 0 (MQ below (cmQ D cy A (some (.int q.1)) ([MO h0 h1 h2 h3 h4 h5 h6 h7 h8 q.2, AI cy 120 h1 v1] : List va_W).flatten) args s 0 0 A) 102 [(1, .int x1), (5, .int x5)] [] [MO h0 h1 h2 h3 h4 h5 h6 h7 h8 v0, AI cy 120 h1 v1] := by
  unfold f_X8_figures_b102 at hf
  refine g_iload_n X dX8_figures_102 0 rfl rfl ?_
  refine g_iconst X (-1 : Int32) dX8_figures_103 (by decide) ?_
  refine g_icmp_ne X 111 dX8_figures_104 (by decide) (fun c1044 => ?_) (fun c1044 => ?_)
  · have hf := oneg c1044 hf
    refine g_iload X dX8_figures_111 1 rfl ?_
    have hf := Option.some.inj hf
    subst hf
    exact g_iret X hr dX8_figures_113
  · have hf := opos c1044 hf
    refine g_iconst X (-1 : Int32) dX8_figures_107 (by decide) ?_
    refine g_goto X 113 dX8_figures_108 (by decide) ?_
    have hf := Option.some.inj hf
    subst hf
    exact g_iret X hr dX8_figures_113
def f_X8_figures_b14 (v0 : MOv) (v1 : Fn) (x1 : Int32) (x3 : Int32) (x4 : Int32) (x5 : Int32) (y0 : Int32) : Option (Int32 × MOv) :=
  (itl (f_X8_figures_B16 v1 x1 x3 x4) FU (x5, y0, v0)).bind (Sum.elim (fun q1043e => some ((-1 : Int32), q1043e)) (fun q1043e => f_X8_figures_b102 q1043e.2 v1 x1 q1043e.1))
set_option maxRecDepth 100000 in
set_option maxHeartbeats 4000000 in
theorem j_X8_figures_b14 {p : Program} {l : Launch} {e : Env} {s : State} {m : MethodId} {args : Array Value} {below : List Frame} {meth : Method} {c : Code} {A : Nat → Prop} {D : va_G} {cy : Nat → ClassId} {ad : (Nat → Nat) × (Nat → Nat)} (X : gK p s m args meth c A D cy ad cX8_figures 9 RX8) (hr : meth.sig.returnType = (some .int)) {h0 h1 h2 h3 h4 h5 h6 h7 h8 : Nat} (v0 : MOv) (v1 : Fn) (x1 : Int32) (x3 : Int32) (x4 : Int32) (x5 : Int32) (y0 : Int32) {q : Int32 × MOv} (hf : f_X8_figures_b14 v0 v1 x1 x3 x4 x5 y0 = some q) : GW p l e rmX8_figures s m args below meth c A D 9 0 0 (MQ below (cmQ D cy A (some (.int q.1)) ([MO h0 h1 h2 h3 h4 h5 h6 h7 h8 q.2, AI cy 120 h1 v1] : List va_W).flatten) args s 0 0 A) 14 [(0, .ref h0), (1, .int x1), (3, .int x3), (4, .int x4), (5, .int x5)] [.int y0] [MO h0 h1 h2 h3 h4 h5 h6 h7 h8 v0, AI cy 120 h1 v1] := by
  unfold f_X8_figures_b14 at hf
  refine g_istore (lv' := [(0, .ref h0), (1, .int x1), (3, .int x3), (4, .int x4), (5, .int x5), (6, .int y0)]) X dX8_figures_14 [1, 2, 3, 4, 5, 0] (Nat.le_of_ble_eq_true rfl) rfl ?_
  obtain ⟨q1043, hq1043, hf⟩ := obind hf
  refine w_X8_figures_B16 X hr v1 x1 x3 x4 hq1043 (fun q1043e hq1043e => ?_) (fun q1043e hq1043e => ?_)
  · subst hq1043e
    have hf := sinl hf
    refine g_iconst X (-1 : Int32) dX8_figures_76 (by decide) ?_
    have hf := Option.some.inj hf
    subst hf
    exact g_iret X hr dX8_figures_77
  · subst hq1043e
    have hf := sinr hf
    exact j_X8_figures_b102 X hr q1043e.2 v1 x1 q1043e.1 hf
def f_X8_figures (v0 : MOv) (v1 : Fn) (p1 : Int32) (p2 : Int32) (p3 : Int32) (p4 : Int32) : Option (Int32 × MOv) :=
  if p2 = (2 : Int32) then f_X8_figures_b14 v0 v1 p1 p3 p4 (0 : Int32) (10 : Int32) else f_X8_figures_b14 v0 v1 p1 p3 p4 (0 : Int32) (1 : Int32)
set_option maxRecDepth 100000 in
set_option maxHeartbeats 4000000 in
theorem c_X8_figures (l : Launch) (D : va_G) (cy : Nat → ClassId) (ad : (Nat → Nat) × (Nat → Nat)) (h0 : Nat) (h1 : Nat) (h2 : Nat) (h3 : Nat) (h4 : Nat) (h5 : Nat) (h6 : Nat) (h7 : Nat) (h8 : Nat) (v0 : MOv) (v1 : Fn) (p1 : Int32) (p2 : Int32) (p3 : Int32) (p4 : Int32) {q : Int32 × MOv} (hf : f_X8_figures v0 v1 p1 p2 p3 p4 = some q) : CM l yX8_figures cX8_figures 9 (some .int) rmX8_figures D cy ad [.ref h0, .int p1, .int p2, .int p3, .int p4] [MO h0 h1 h2 h3 h4 h5 h6 h7 h8 v0, AI cy 120 h1 v1] (some (.int q.1)) [MO h0 h1 h2 h3 h4 h5 h6 h7 h8 q.2, AI cy 120 h1 v1] := by
  refine cm_of (lv0 := [(0, .ref h0), (1, .int p1), (2, .int p2), (3, .int p3), (4, .int p4)]) (by decide) (Nat.le_of_ble_eq_true rfl) rfl ?_
  intro p e s m args below meth c A X hr hn
  have X : gK p s m args meth c A D cy ad cX8_figures 9 RX8 := X
  unfold f_X8_figures at hf
  refine g_iconst X (0 : Int32) dX8_figures_0 (by decide) ?_
  refine g_istore (lv' := [(0, .ref h0), (1, .int p1), (2, .int p2), (3, .int p3), (4, .int p4), (5, .int (0 : Int32))]) X dX8_figures_1 [1, 2, 3, 4, 5, 0] (Nat.le_of_ble_eq_true rfl) rfl ?_
  refine g_iload_n X dX8_figures_3 2 rfl rfl ?_
  refine g_iconst X (2 : Int32) dX8_figures_4 (by decide) ?_
  refine g_icmp_ne X 13 dX8_figures_5 (by decide) (fun c1045 => ?_) (fun c1045 => ?_)
  · have hf := oneg c1045 hf
    refine g_iconst X (1 : Int32) dX8_figures_13 (by decide) ?_
    refine g_sub [0, 1, 3, 4, 5] (lv' := [(0, .ref h0), (1, .int p1), (3, .int p3), (4, .int p4), (5, .int (0 : Int32))]) rfl ?_
    exact j_X8_figures_b14 X hr v0 v1 p1 p3 p4 (0 : Int32) (1 : Int32) hf
  · have hf := opos c1045 hf
    refine g_bipush X (10 : Int32) dX8_figures_8 (by decide) ?_
    refine g_goto X 14 dX8_figures_10 (by decide) ?_
    refine g_sub [0, 1, 3, 4, 5] (lv' := [(0, .ref h0), (1, .int p1), (3, .int p3), (4, .int p4), (5, .int (0 : Int32))]) rfl ?_
    exact j_X8_figures_b14 X hr v0 v1 p1 p3 p4 (0 : Int32) (10 : Int32) hf
abbrev rmX8_letters : Room := ({ frames := 1, cells := 0, slots := 0, locals := 25 } : Room)
def f_X8_letters_B5 (v1 : Fn) (x1 : Int32) (z : Int32 × Int32 × MOv) : Option ((Int32 × Int32 × MOv) ⊕ ((Int32 × MOv))) :=
  (f_X8_sign z.2.2 v1).bind (fun q1056 => (f_X8_in (q1056.toInt64) (z.2.1.toInt64) (108 : Int64)).bind (fun q1057 => if (b2i q1057) = 0 then some (.inr ((z.1, z.2.2))) else (f_X8_sign z.2.2 v1).bind (fun q1058 => (f_X8_sign z.2.2 v1).bind (fun q1059 => some (.inl ((z.1 ||| ((1 : Int32) <<< ((q1058 - (97 : Int32)) &&& 31))), (q1059 + (1 : Int32)), (z.2.2.1, z.2.2.2.1, z.2.2.2.2.1, z.2.2.2.2.2.1, (z.2.2.2.2.2.2.1 + (1 : Int32)), z.2.2.2.2.2.2.2)))))))
set_option maxRecDepth 100000 in
set_option maxHeartbeats 4000000 in
theorem b_X8_letters_B5 {p : Program} {l : Launch} {e : Env} {s : State} {m : MethodId} {args : Array Value} {below : List Frame} {meth : Method} {c : Code} {A : Nat → Prop} {D : va_G} {cy : Nat → ClassId} {ad : (Nat → Nat) × (Nat → Nat)} {Q : State → Prop} (X : gK p s m args meth c A D cy ad cX8_letters 4 RX8) (hr : meth.sig.returnType = (some .int)) {h0 h1 h2 h3 h4 h5 h6 h7 h8 : Nat} (v1 : Fn) (x1 : Int32) (z : Int32 × Int32 × MOv) {q : (Int32 × Int32 × MOv) ⊕ ((Int32 × MOv))} (hf : f_X8_letters_B5 v1 x1 z = some q) (K1 : ∀ s' : Int32 × Int32 × MOv, q = .inl s' → GW p l e rmX8_letters s m args below meth c A D 4 0 0 Q 5 [(0, .ref h0), (1, .int x1), (2, .int s'.1), (3, .int s'.2.1)] [] [MO h0 h1 h2 h3 h4 h5 h6 h7 h8 (s'.2.2.1, s'.2.2.2.1, s'.2.2.2.2.1, s'.2.2.2.2.2.1, s'.2.2.2.2.2.2.1, s'.2.2.2.2.2.2.2), AI cy 120 h1 v1]) (K2 : ∀ e' : Int32 × MOv, q = .inr (e') → GW p l e rmX8_letters s m args below meth c A D 4 0 0 Q 53 [(0, .ref h0), (1, .int x1), (2, .int e'.1)] [] [MO h0 h1 h2 h3 h4 h5 h6 h7 h8 (e'.2.1, e'.2.2.1, e'.2.2.2.1, e'.2.2.2.2.1, e'.2.2.2.2.2.1, e'.2.2.2.2.2.2), AI cy 120 h1 v1]) : GW p l e rmX8_letters s m args below meth c A D 4 0 0 Q 5 [(0, .ref h0), (1, .int x1), (2, .int z.1), (3, .int z.2.1)] [] [MO h0 h1 h2 h3 h4 h5 h6 h7 h8 z.2.2, AI cy 120 h1 v1] := by
  unfold f_X8_letters_B5 at hf
  refine g_aload_n X dX8_letters_5 0 rfl rfl ?_
  obtain ⟨q1056, hq1056, hf⟩ := obind hf
  refine g_callV (gs' := [MO h0 h1 h2 h3 h4 h5 h6 h7 h8 z.2.2, AI cy 120 h1 v1]) (rest := []) X dX8_letters_6 (c_X8_sign l D cy ad h0 h1 h2 h3 h4 h5 h6 h7 h8 z.2.2 v1 hq1056) mf_X8_sign mv_X8_sign lkm_X8_109 ⟨(Nat.le_of_ble_eq_true rfl), (Nat.le_of_ble_eq_true rfl), (Nat.le_of_ble_eq_true rfl), (Nat.le_of_ble_eq_true rfl)⟩ 0 0 rfl rfl rfl rfl [0, 1] _ (by decide : [0, 1].Perm (List.range 2)) rfl (by decide : [0, 1].Perm (List.range 2)) rfl (Nat.le_of_ble_eq_true rfl) rfl ?_
  refine g_i2l X dX8_letters_9 ?_
  refine g_iload_n X dX8_letters_10 3 rfl rfl ?_
  refine g_i2l X dX8_letters_11 ?_
  refine g_ldc2 X lkl_X8_115 dX8_letters_12 ?_
  obtain ⟨q1057, hq1057, hf⟩ := obind hf
  refine g_callS (gs' := [MO h0 h1 h2 h3 h4 h5 h6 h7 h8 z.2.2, AI cy 120 h1 v1]) (rest := []) X dX8_letters_15 (c_X8_in l D cy ad (q1056.toInt64) (z.2.1.toInt64) (108 : Int64) hq1057) mf_X8_in ms_X8_in lkm_X8_43 ⟨(Nat.le_of_ble_eq_true rfl), (Nat.le_of_ble_eq_true rfl), (Nat.le_of_ble_eq_true rfl), (Nat.le_of_ble_eq_true rfl)⟩ [0, 1] _ (by decide : [0, 1].Perm (List.range 2)) rfl (by decide : [0, 1].Perm (List.range 2)) rfl (Nat.le_of_ble_eq_true rfl) rfl ?_
  refine g_if_eq X 53 dX8_letters_18 (by decide) (fun c1060 => ?_) (fun c1060 => ?_)
  · have hf := opos c1060 hf
    refine g_sub [0, 1, 2] (lv' := [(0, .ref h0), (1, .int x1), (2, .int z.1)]) rfl ?_
    exact K2 (z.1, z.2.2) (Option.some.inj hf).symm
  · have hf := oneg c1060 hf
    refine g_iload_n X dX8_letters_21 2 rfl rfl ?_
    refine g_iconst X (1 : Int32) dX8_letters_22 (by decide) ?_
    refine g_aload_n X dX8_letters_23 0 rfl rfl ?_
    obtain ⟨q1058, hq1058, hf⟩ := obind hf
    refine g_callV (gs' := [MO h0 h1 h2 h3 h4 h5 h6 h7 h8 z.2.2, AI cy 120 h1 v1]) (rest := [.int (1 : Int32), .int z.1]) X dX8_letters_24 (c_X8_sign l D cy ad h0 h1 h2 h3 h4 h5 h6 h7 h8 z.2.2 v1 hq1058) mf_X8_sign mv_X8_sign lkm_X8_109 ⟨(Nat.le_of_ble_eq_true rfl), (Nat.le_of_ble_eq_true rfl), (Nat.le_of_ble_eq_true rfl), (Nat.le_of_ble_eq_true rfl)⟩ 0 0 rfl rfl rfl rfl [0, 1] _ (by decide : [0, 1].Perm (List.range 2)) rfl (by decide : [0, 1].Perm (List.range 2)) rfl (Nat.le_of_ble_eq_true rfl) rfl ?_
    refine g_bipush X (97 : Int32) dX8_letters_27 (by decide) ?_
    refine g_isub X dX8_letters_29 ?_
    refine g_ishl X dX8_letters_30 ?_
    refine g_ior X dX8_letters_31 ?_
    refine g_istore_n (lv' := [(0, .ref h0), (1, .int x1), (2, .int (z.1 ||| ((1 : Int32) <<< ((q1058 - (97 : Int32)) &&& 31)))), (3, .int z.2.1)]) X dX8_letters_32 [1, 2, 0, 3] rfl (Nat.le_of_ble_eq_true rfl) rfl ?_
    refine g_aload_n X dX8_letters_33 0 rfl rfl ?_
    obtain ⟨q1059, hq1059, hf⟩ := obind hf
    refine g_callV (gs' := [MO h0 h1 h2 h3 h4 h5 h6 h7 h8 z.2.2, AI cy 120 h1 v1]) (rest := []) X dX8_letters_34 (c_X8_sign l D cy ad h0 h1 h2 h3 h4 h5 h6 h7 h8 z.2.2 v1 hq1059) mf_X8_sign mv_X8_sign lkm_X8_109 ⟨(Nat.le_of_ble_eq_true rfl), (Nat.le_of_ble_eq_true rfl), (Nat.le_of_ble_eq_true rfl), (Nat.le_of_ble_eq_true rfl)⟩ 0 0 rfl rfl rfl rfl [0, 1] _ (by decide : [0, 1].Perm (List.range 2)) rfl (by decide : [0, 1].Perm (List.range 2)) rfl (Nat.le_of_ble_eq_true rfl) rfl ?_
    refine g_iconst X (1 : Int32) dX8_letters_37 (by decide) ?_
    refine g_iadd X dX8_letters_38 ?_
    refine g_istore_n (lv' := [(0, .ref h0), (1, .int x1), (2, .int (z.1 ||| ((1 : Int32) <<< ((q1058 - (97 : Int32)) &&& 31)))), (3, .int (q1059 + (1 : Int32)))]) X dX8_letters_39 [1, 2, 3, 0] rfl (Nat.le_of_ble_eq_true rfl) rfl ?_
    refine g_aload_n X dX8_letters_40 0 rfl rfl ?_
    refine g_dup X dX8_letters_41 rfl ?_
    refine g_get X dX8_letters_42 ck_X8 0 0 12 rfl rfl (Nat.le_of_ble_eq_true rfl) lkf_X8_106 rfl ?_
    refine g_iconst X (1 : Int32) dX8_letters_45 (by decide) ?_
    refine g_iadd X dX8_letters_46 ?_
    refine g_put (gs' := [MO h0 h1 h2 h3 h4 h5 h6 h7 h8 (z.2.2.1, z.2.2.2.1, z.2.2.2.2.1, z.2.2.2.2.2.1, (z.2.2.2.2.2.2.1 + (1 : Int32)), z.2.2.2.2.2.2.2), AI cy 120 h1 v1]) X dX8_letters_47 ck_X8 ct_X8 0 0 12 rfl rfl (Nat.le_of_ble_eq_true rfl) lkf_X8_106 rfl rfl rfl (Nat.le_of_ble_eq_true rfl) rfl ?_
    refine g_goto X 5 dX8_letters_50 (by decide) ?_
    exact K1 ((z.1 ||| ((1 : Int32) <<< ((q1058 - (97 : Int32)) &&& 31))), (q1059 + (1 : Int32)), (z.2.2.1, z.2.2.2.1, z.2.2.2.2.1, z.2.2.2.2.2.1, (z.2.2.2.2.2.2.1 + (1 : Int32)), z.2.2.2.2.2.2.2)) (Option.some.inj hf).symm
set_option maxRecDepth 100000 in
set_option maxHeartbeats 4000000 in
theorem w_X8_letters_B5 {p : Program} {l : Launch} {e : Env} {s : State} {m : MethodId} {args : Array Value} {below : List Frame} {meth : Method} {c : Code} {A : Nat → Prop} {D : va_G} {cy : Nat → ClassId} {ad : (Nat → Nat) × (Nat → Nat)} {Q : State → Prop} (X : gK p s m args meth c A D cy ad cX8_letters 4 RX8) (hr : meth.sig.returnType = (some .int)) {h0 h1 h2 h3 h4 h5 h6 h7 h8 : Nat} (v1 : Fn) (x1 : Int32) {n : Nat} {z : Int32 × Int32 × MOv} {q : (Int32 × MOv)} (hf : itl (f_X8_letters_B5 v1 x1) n z = some q) (K2 : GW p l e rmX8_letters s m args below meth c A D 4 0 0 Q 53 [(0, .ref h0), (1, .int x1), (2, .int q.1)] [] [MO h0 h1 h2 h3 h4 h5 h6 h7 h8 q.2, AI cy 120 h1 v1]) : GW p l e rmX8_letters s m args below meth c A D 4 0 0 Q 5 [(0, .ref h0), (1, .int x1), (2, .int z.1), (3, .int z.2.1)] [] [MO h0 h1 h2 h3 h4 h5 h6 h7 h8 z.2.2, AI cy 120 h1 v1] :=
  itl_ind (f := f_X8_letters_B5 v1 x1) (I := fun z => GW p l e rmX8_letters s m args below meth c A D 4 0 0 Q 5 [(0, .ref h0), (1, .int x1), (2, .int z.1), (3, .int z.2.1)] [] [MO h0 h1 h2 h3 h4 h5 h6 h7 h8 z.2.2, AI cy 120 h1 v1]) (J := (fun q => GW p l e rmX8_letters s m args below meth c A D 4 0 0 Q 53 [(0, .ref h0), (1, .int x1), (2, .int q.1)] [] [MO h0 h1 h2 h3 h4 h5 h6 h7 h8 q.2, AI cy 120 h1 v1])) (fun z x h k1 k2 => b_X8_letters_B5 X hr v1 x1 z h (fun s' hs => k1 s' hs) (fun e' he => k2 e' he)) n z q hf K2
def f_X8_letters (v0 : MOv) (v1 : Fn) (p1 : Int32) : Option (Int32 × MOv) :=
  (itl (f_X8_letters_B5 v1 p1) FU ((0 : Int32), (97 : Int32), v0)).bind (fun q1061 => (f_X8_sign q1061.2 v1).bind (fun q1062 => if q1062 = p1 then some (q1061.1, (q1061.2.1, q1061.2.2.1, q1061.2.2.2.1, q1061.2.2.2.2.1, (q1061.2.2.2.2.2.1 + (1 : Int32)), q1061.2.2.2.2.2.2)) else some ((-1 : Int32), q1061.2)))
set_option maxRecDepth 100000 in
set_option maxHeartbeats 4000000 in
theorem c_X8_letters (l : Launch) (D : va_G) (cy : Nat → ClassId) (ad : (Nat → Nat) × (Nat → Nat)) (h0 : Nat) (h1 : Nat) (h2 : Nat) (h3 : Nat) (h4 : Nat) (h5 : Nat) (h6 : Nat) (h7 : Nat) (h8 : Nat) (v0 : MOv) (v1 : Fn) (p1 : Int32) {q : Int32 × MOv} (hf : f_X8_letters v0 v1 p1 = some q) : CM l yX8_letters cX8_letters 4 (some .int) rmX8_letters D cy ad [.ref h0, .int p1] [MO h0 h1 h2 h3 h4 h5 h6 h7 h8 v0, AI cy 120 h1 v1] (some (.int q.1)) [MO h0 h1 h2 h3 h4 h5 h6 h7 h8 q.2, AI cy 120 h1 v1] := by
  refine cm_of (lv0 := [(0, .ref h0), (1, .int p1)]) (by decide) (Nat.le_of_ble_eq_true rfl) rfl ?_
  intro p e s m args below meth c A X hr hn
  have X : gK p s m args meth c A D cy ad cX8_letters 4 RX8 := X
  unfold f_X8_letters at hf
  refine g_iconst X (0 : Int32) dX8_letters_0 (by decide) ?_
  refine g_istore_n (lv' := [(0, .ref h0), (1, .int p1), (2, .int (0 : Int32))]) X dX8_letters_1 [1, 2, 0] rfl (Nat.le_of_ble_eq_true rfl) rfl ?_
  refine g_bipush X (97 : Int32) dX8_letters_2 (by decide) ?_
  refine g_istore_n (lv' := [(0, .ref h0), (1, .int p1), (2, .int (0 : Int32)), (3, .int (97 : Int32))]) X dX8_letters_4 [1, 2, 3, 0] rfl (Nat.le_of_ble_eq_true rfl) rfl ?_
  obtain ⟨q1061, hq1061, hf⟩ := obind hf
  refine w_X8_letters_B5 X hr v1 p1 hq1061 ?_
  refine g_aload_n X dX8_letters_53 0 rfl rfl ?_
  obtain ⟨q1062, hq1062, hf⟩ := obind hf
  refine g_callV (gs' := [MO h0 h1 h2 h3 h4 h5 h6 h7 h8 q1061.2, AI cy 120 h1 v1]) (rest := []) X dX8_letters_54 (c_X8_sign l D cy ad h0 h1 h2 h3 h4 h5 h6 h7 h8 q1061.2 v1 hq1062) mf_X8_sign mv_X8_sign lkm_X8_109 ⟨(Nat.le_of_ble_eq_true rfl), (Nat.le_of_ble_eq_true rfl), (Nat.le_of_ble_eq_true rfl), (Nat.le_of_ble_eq_true rfl)⟩ 0 0 rfl rfl rfl rfl [0, 1] _ (by decide : [0, 1].Perm (List.range 2)) rfl (by decide : [0, 1].Perm (List.range 2)) rfl (Nat.le_of_ble_eq_true rfl) rfl ?_
  refine g_iload_n X dX8_letters_57 1 rfl rfl ?_
  refine g_icmp_eq X 63 dX8_letters_58 (by decide) (fun c1063 => ?_) (fun c1063 => ?_)
  · have hf := opos c1063 hf
    refine g_aload_n X dX8_letters_63 0 rfl rfl ?_
    refine g_dup X dX8_letters_64 rfl ?_
    refine g_get X dX8_letters_65 ck_X8 0 0 12 rfl rfl (Nat.le_of_ble_eq_true rfl) lkf_X8_106 rfl ?_
    refine g_iconst X (1 : Int32) dX8_letters_68 (by decide) ?_
    refine g_iadd X dX8_letters_69 ?_
    refine g_put (gs' := [MO h0 h1 h2 h3 h4 h5 h6 h7 h8 (q1061.2.1, q1061.2.2.1, q1061.2.2.2.1, q1061.2.2.2.2.1, (q1061.2.2.2.2.2.1 + (1 : Int32)), q1061.2.2.2.2.2.2), AI cy 120 h1 v1]) X dX8_letters_70 ck_X8 ct_X8 0 0 12 rfl rfl (Nat.le_of_ble_eq_true rfl) lkf_X8_106 rfl rfl rfl (Nat.le_of_ble_eq_true rfl) rfl ?_
    refine g_iload_n X dX8_letters_73 2 rfl rfl ?_
    have hf := Option.some.inj hf
    subst hf
    exact g_iret X hr dX8_letters_74
  · have hf := oneg c1063 hf
    refine g_iconst X (-1 : Int32) dX8_letters_61 (by decide) ?_
    have hf := Option.some.inj hf
    subst hf
    exact g_iret X hr dX8_letters_62
abbrev rmX8_done : Room := ({ frames := 0, cells := 0, slots := 0, locals := 0 } : Room)
def f_X8_done_b14 (v0 : MOv) (y0 : Bool) (y1 : Int32) : Option (Bool × MOv) :=
  some (true, (v0.1, v0.2.1, v0.2.2.1, v0.2.2.2.1, v0.2.2.2.2.1, (y1 + (b2i y0))))
set_option maxRecDepth 100000 in
set_option maxHeartbeats 4000000 in
theorem j_X8_done_b14 {p : Program} {l : Launch} {e : Env} {s : State} {m : MethodId} {args : Array Value} {below : List Frame} {meth : Method} {c : Code} {A : Nat → Prop} {D : va_G} {cy : Nat → ClassId} {ad : (Nat → Nat) × (Nat → Nat)} (X : gK p s m args meth c A D cy ad cX8_done 2 RX8) (hr : meth.sig.returnType = (some .boolean)) {h0 h1 h2 h3 h4 h5 h6 h7 h8 : Nat} (v0 : MOv) (y0 : Bool) (y1 : Int32) {q : Bool × MOv} (hf : f_X8_done_b14 v0 y0 y1 = some q) : GW p l e rmX8_done s m args below meth c A D 2 0 0 (MQ below (cmQ D cy A (some (.int (b2i q.1))) ([MO h0 h1 h2 h3 h4 h5 h6 h7 h8 q.2] : List va_W).flatten) args s 0 0 A) 14 [] [.int (b2i y0), .int y1, .ref h0] [MO h0 h1 h2 h3 h4 h5 h6 h7 h8 v0] := by
  unfold f_X8_done_b14 at hf
  refine g_iadd X dX8_done_14 ?_
  refine g_put (gs' := [MO h0 h1 h2 h3 h4 h5 h6 h7 h8 (v0.1, v0.2.1, v0.2.2.1, v0.2.2.2.1, v0.2.2.2.2.1, (y1 + (b2i y0)))]) X dX8_done_15 ck_X8 ct_X8 0 0 13 rfl rfl (Nat.le_of_ble_eq_true rfl) lkf_X8_117 rfl rfl rfl (Nat.le_of_ble_eq_true rfl) rfl ?_
  refine g_iconst X (1 : Int32) dX8_done_18 (by decide) ?_
  have hf := Option.some.inj hf
  subst hf
  exact g_zret (b := true) X hr dX8_done_19
def f_X8_done (v0 : MOv) (p1 : Bool) : Option (Bool × MOv) :=
  if (b2i p1) = 0 then f_X8_done_b14 v0 true v0.2.2.2.2.2 else f_X8_done_b14 v0 false v0.2.2.2.2.2
set_option maxRecDepth 100000 in
set_option maxHeartbeats 4000000 in
theorem c_X8_done (l : Launch) (D : va_G) (cy : Nat → ClassId) (ad : (Nat → Nat) × (Nat → Nat)) (h0 : Nat) (h1 : Nat) (h2 : Nat) (h3 : Nat) (h4 : Nat) (h5 : Nat) (h6 : Nat) (h7 : Nat) (h8 : Nat) (v0 : MOv) (p1 : Bool) {q : Bool × MOv} (hf : f_X8_done v0 p1 = some q) : CM l yX8_done cX8_done 2 (some .boolean) rmX8_done D cy ad [.ref h0, .int (b2i p1)] [MO h0 h1 h2 h3 h4 h5 h6 h7 h8 v0] (some (.int (b2i q.1))) [MO h0 h1 h2 h3 h4 h5 h6 h7 h8 q.2] := by
  refine cm_of (lv0 := [(0, .ref h0), (1, .int (b2i p1))]) (by decide) (Nat.le_of_ble_eq_true rfl) rfl ?_
  intro p e s m args below meth c A X hr hn
  have X : gK p s m args meth c A D cy ad cX8_done 2 RX8 := X
  unfold f_X8_done at hf
  refine g_aload_n X dX8_done_0 0 rfl rfl ?_
  refine g_dup X dX8_done_1 rfl ?_
  refine g_get X dX8_done_2 ck_X8 0 0 13 rfl rfl (Nat.le_of_ble_eq_true rfl) lkf_X8_117 rfl ?_
  refine g_iload_n X dX8_done_5 1 rfl rfl ?_
  refine g_if_eq X 13 dX8_done_6 (by decide) (fun c1064 => ?_) (fun c1064 => ?_)
  · have hf := opos c1064 hf
    refine g_iconst X (1 : Int32) dX8_done_13 (by decide) ?_
    refine g_sub [] (lv' := []) rfl ?_
    exact j_X8_done_b14 X hr v0 true v0.2.2.2.2.2 hf
  · have hf := oneg c1064 hf
    refine g_iconst X (0 : Int32) dX8_done_9 (by decide) ?_
    refine g_goto X 14 dX8_done_10 (by decide) ?_
    refine g_sub [] (lv' := []) rfl ?_
    exact j_X8_done_b14 X hr v0 false v0.2.2.2.2.2 hf
abbrev rmX8_readCommand : Room := ({ frames := 4, cells := 0, slots := 0, locals := 93 } : Room)
def f_X8_readCommand_b94 (v0 : MOv) (v1 : Fn) (w0 : Fn) (y0 : Bool) : Option (Bool × MOv × Fn) :=
  (f_X8_done v0 y0).bind (fun q1091 => if (b2i q1091.1) = 0 then some (false, q1091.2, w0) else some (true, q1091.2, w0))
set_option maxRecDepth 100000 in
set_option maxHeartbeats 4000000 in
theorem j_X8_readCommand_b94 {p : Program} {l : Launch} {e : Env} {s : State} {m : MethodId} {args : Array Value} {below : List Frame} {meth : Method} {c : Code} {A : Nat → Prop} {D : va_G} {cy : Nat → ClassId} {ad : (Nat → Nat) × (Nat → Nat)} (X : gK p s m args meth c A D cy ad cX8_readCommand 4 RX8) (hr : meth.sig.returnType = (some .boolean)) {h0 h1 h2 h3 h4 h5 h6 h7 h8 g0 : Nat} (v0 : MOv) (v1 : Fn) (w0 : Fn) (y0 : Bool) {q : Bool × MOv × Fn} (hf : f_X8_readCommand_b94 v0 v1 w0 y0 = some q) : GW p l e rmX8_readCommand s m args below meth c A D 4 0 0 (MQ below (cmQ D cy A (some (.int (b2i q.1))) ([MO h0 h1 h2 h3 h4 h5 h6 h7 h8 q.2.1, AI cy 120 h1 v1, AI cy 107 g0 q.2.2] : List va_W).flatten) args s 0 0 A) 94 [] [.int (b2i y0), .ref h0] [MO h0 h1 h2 h3 h4 h5 h6 h7 h8 v0, AI cy 120 h1 v1, AI cy 107 g0 w0] := by
  unfold f_X8_readCommand_b94 at hf
  obtain ⟨q1091, hq1091, hf⟩ := obind hf
  refine g_callV (gs' := [MO h0 h1 h2 h3 h4 h5 h6 h7 h8 q1091.2, AI cy 120 h1 v1, AI cy 107 g0 w0]) (rest := []) X dX8_readCommand_94 (c_X8_done l D cy ad h0 h1 h2 h3 h4 h5 h6 h7 h8 v0 y0 hq1091) mf_X8_done mv_X8_done lkm_X8_130 ⟨(Nat.le_of_ble_eq_true rfl), (Nat.le_of_ble_eq_true rfl), (Nat.le_of_ble_eq_true rfl), (Nat.le_of_ble_eq_true rfl)⟩ 0 0 rfl rfl rfl rfl [0, 1, 2] _ (by decide : [0, 1, 2].Perm (List.range 3)) rfl (by decide : [0, 1, 2].Perm (List.range 3)) rfl (Nat.le_of_ble_eq_true rfl) rfl ?_
  refine g_if_eq X 104 dX8_readCommand_97 (by decide) (fun c1092 => ?_) (fun c1092 => ?_)
  · have hf := opos c1092 hf
    refine g_iconst X (0 : Int32) dX8_readCommand_104 (by decide) ?_
    have hf := Option.some.inj hf
    subst hf
    exact g_zret (b := false) X hr dX8_readCommand_105
  · have hf := oneg c1092 hf
    refine g_iconst X (1 : Int32) dX8_readCommand_100 (by decide) ?_
    refine g_goto X 105 dX8_readCommand_101 (by decide) ?_
    have hf := Option.some.inj hf
    subst hf
    exact g_zret (b := true) X hr dX8_readCommand_105
def f_X8_readCommand_b93 (v0 : MOv) (v1 : Fn) (w0 : Fn) : Option (Bool × MOv × Fn) :=
  f_X8_readCommand_b94 v0 v1 w0 false
set_option maxRecDepth 100000 in
set_option maxHeartbeats 4000000 in
theorem j_X8_readCommand_b93 {p : Program} {l : Launch} {e : Env} {s : State} {m : MethodId} {args : Array Value} {below : List Frame} {meth : Method} {c : Code} {A : Nat → Prop} {D : va_G} {cy : Nat → ClassId} {ad : (Nat → Nat) × (Nat → Nat)} (X : gK p s m args meth c A D cy ad cX8_readCommand 4 RX8) (hr : meth.sig.returnType = (some .boolean)) {h0 h1 h2 h3 h4 h5 h6 h7 h8 g0 : Nat} (v0 : MOv) (v1 : Fn) (w0 : Fn) {q : Bool × MOv × Fn} (hf : f_X8_readCommand_b93 v0 v1 w0 = some q) : GW p l e rmX8_readCommand s m args below meth c A D 4 0 0 (MQ below (cmQ D cy A (some (.int (b2i q.1))) ([MO h0 h1 h2 h3 h4 h5 h6 h7 h8 q.2.1, AI cy 120 h1 v1, AI cy 107 g0 q.2.2] : List va_W).flatten) args s 0 0 A) 93 [] [.ref h0] [MO h0 h1 h2 h3 h4 h5 h6 h7 h8 v0, AI cy 120 h1 v1, AI cy 107 g0 w0] := by
  unfold f_X8_readCommand_b93 at hf
  refine g_iconst X (0 : Int32) dX8_readCommand_93 (by decide) ?_
  exact j_X8_readCommand_b94 X hr v0 v1 w0 false hf
def f_X8_readCommand_b64 (v0 : MOv) (v1 : Fn) (w0 : Fn) (x2 : Int32) (y0 : Int32) : Option (Bool × MOv × Fn) :=
  if y0 = (-1 : Int32) then some (false, v0, w0) else (f_X8_canWeigh w0 x2 y0).bind (fun q1090 => if (b2i q1090) = 0 then f_X8_readCommand_b93 v0 v1 w0 else (f_X8_weighOn w0 x2 y0).bind (fun q1093 => if q1093.1 < 0 then f_X8_readCommand_b93 v0 v1 q1093.2 else f_X8_readCommand_b94 v0 v1 q1093.2 true))
set_option maxRecDepth 100000 in
set_option maxHeartbeats 4000000 in
theorem j_X8_readCommand_b64 {p : Program} {l : Launch} {e : Env} {s : State} {m : MethodId} {args : Array Value} {below : List Frame} {meth : Method} {c : Code} {A : Nat → Prop} {D : va_G} {cy : Nat → ClassId} {ad : (Nat → Nat) × (Nat → Nat)} (X : gK p s m args meth c A D cy ad cX8_readCommand 4 RX8) (hr : meth.sig.returnType = (some .boolean)) {h0 h1 h2 h3 h4 h5 h6 h7 h8 g0 : Nat} (v0 : MOv) (v1 : Fn) (w0 : Fn) (x2 : Int32) (y0 : Int32) {q : Bool × MOv × Fn} (hf : f_X8_readCommand_b64 v0 v1 w0 x2 y0 = some q) : GW p l e rmX8_readCommand s m args below meth c A D 4 0 0 (MQ below (cmQ D cy A (some (.int (b2i q.1))) ([MO h0 h1 h2 h3 h4 h5 h6 h7 h8 q.2.1, AI cy 120 h1 v1, AI cy 107 g0 q.2.2] : List va_W).flatten) args s 0 0 A) 64 [(0, .ref h0), (1, .ref g0), (2, .int x2)] [.int y0] [MO h0 h1 h2 h3 h4 h5 h6 h7 h8 v0, AI cy 120 h1 v1, AI cy 107 g0 w0] := by
  unfold f_X8_readCommand_b64 at hf
  refine g_istore_n (lv' := [(0, .ref h0), (1, .ref g0), (2, .int x2), (3, .int y0)]) X dX8_readCommand_64 [1, 2, 3, 0] rfl (Nat.le_of_ble_eq_true rfl) rfl ?_
  refine g_iload_n X dX8_readCommand_65 3 rfl rfl ?_
  refine g_iconst X (-1 : Int32) dX8_readCommand_66 (by decide) ?_
  refine g_icmp_eq X 104 dX8_readCommand_67 (by decide) (fun c1096 => ?_) (fun c1096 => ?_)
  · have hf := opos c1096 hf
    refine g_iconst X (0 : Int32) dX8_readCommand_104 (by decide) ?_
    have hf := Option.some.inj hf
    subst hf
    exact g_zret (b := false) X hr dX8_readCommand_105
  · have hf := oneg c1096 hf
    refine g_aload_n X dX8_readCommand_70 0 rfl rfl ?_
    refine g_aload_n X dX8_readCommand_71 1 rfl rfl ?_
    refine g_iload_n X dX8_readCommand_72 2 rfl rfl ?_
    refine g_iload_n X dX8_readCommand_73 3 rfl rfl ?_
    obtain ⟨q1090, hq1090, hf⟩ := obind hf
    refine g_callS (gs' := [MO h0 h1 h2 h3 h4 h5 h6 h7 h8 v0, AI cy 120 h1 v1, AI cy 107 g0 w0]) (rest := [.ref h0]) X dX8_readCommand_74 (c_X8_canWeigh l D cy ad g0 w0 x2 y0 hq1090) mf_X8_canWeigh ms_X8_canWeigh lkm_X8_123 ⟨(Nat.le_of_ble_eq_true rfl), (Nat.le_of_ble_eq_true rfl), (Nat.le_of_ble_eq_true rfl), (Nat.le_of_ble_eq_true rfl)⟩ [2, 0, 1] _ (by decide : [2, 0, 1].Perm (List.range 3)) rfl (by decide : [2, 0, 1].Perm (List.range 3)) rfl (Nat.le_of_ble_eq_true rfl) rfl ?_
    refine g_if_eq X 93 dX8_readCommand_77 (by decide) (fun c1095 => ?_) (fun c1095 => ?_)
    · have hf := opos c1095 hf
      refine g_sub [] (lv' := []) rfl ?_
      exact j_X8_readCommand_b93 X hr v0 v1 w0 hf
    · have hf := oneg c1095 hf
      refine g_aload_n X dX8_readCommand_80 1 rfl rfl ?_
      refine g_iload_n X dX8_readCommand_81 2 rfl rfl ?_
      refine g_iload_n X dX8_readCommand_82 3 rfl rfl ?_
      obtain ⟨q1093, hq1093, hf⟩ := obind hf
      refine g_callS (gs' := [MO h0 h1 h2 h3 h4 h5 h6 h7 h8 v0, AI cy 120 h1 v1, AI cy 107 g0 q1093.2]) (rest := [.ref h0]) X dX8_readCommand_83 (c_X8_weighOn l D cy ad g0 w0 x2 y0 hq1093) mf_X8_weighOn ms_X8_weighOn lkm_X8_126 ⟨(Nat.le_of_ble_eq_true rfl), (Nat.le_of_ble_eq_true rfl), (Nat.le_of_ble_eq_true rfl), (Nat.le_of_ble_eq_true rfl)⟩ [2, 0, 1] _ (by decide : [2, 0, 1].Perm (List.range 3)) rfl (by decide : [2, 0, 1].Perm (List.range 3)) rfl (Nat.le_of_ble_eq_true rfl) rfl ?_
      refine g_if_lt X 93 dX8_readCommand_86 (by decide) (fun c1094 => ?_) (fun c1094 => ?_)
      · have hf := opos c1094 hf
        refine g_sub [] (lv' := []) rfl ?_
        exact j_X8_readCommand_b93 X hr v0 v1 q1093.2 hf
      · have hf := oneg c1094 hf
        refine g_iconst X (1 : Int32) dX8_readCommand_89 (by decide) ?_
        refine g_goto X 94 dX8_readCommand_90 (by decide) ?_
        refine g_sub [] (lv' := []) rfl ?_
        exact j_X8_readCommand_b94 X hr v0 v1 q1093.2 true hf
def f_X8_readCommand_b156 (v0 : MOv) (v1 : Fn) (w0 : Fn) (y0 : Bool) : Option (Bool × MOv × Fn) :=
  (f_X8_done v0 y0).bind (fun q1101 => if (b2i q1101.1) = 0 then some (false, q1101.2, w0) else some (true, q1101.2, w0))
set_option maxRecDepth 100000 in
set_option maxHeartbeats 4000000 in
theorem j_X8_readCommand_b156 {p : Program} {l : Launch} {e : Env} {s : State} {m : MethodId} {args : Array Value} {below : List Frame} {meth : Method} {c : Code} {A : Nat → Prop} {D : va_G} {cy : Nat → ClassId} {ad : (Nat → Nat) × (Nat → Nat)} (X : gK p s m args meth c A D cy ad cX8_readCommand 4 RX8) (hr : meth.sig.returnType = (some .boolean)) {h0 h1 h2 h3 h4 h5 h6 h7 h8 g0 : Nat} (v0 : MOv) (v1 : Fn) (w0 : Fn) (y0 : Bool) {q : Bool × MOv × Fn} (hf : f_X8_readCommand_b156 v0 v1 w0 y0 = some q) : GW p l e rmX8_readCommand s m args below meth c A D 4 0 0 (MQ below (cmQ D cy A (some (.int (b2i q.1))) ([MO h0 h1 h2 h3 h4 h5 h6 h7 h8 q.2.1, AI cy 120 h1 v1, AI cy 107 g0 q.2.2] : List va_W).flatten) args s 0 0 A) 156 [] [.int (b2i y0), .ref h0] [MO h0 h1 h2 h3 h4 h5 h6 h7 h8 v0, AI cy 120 h1 v1, AI cy 107 g0 w0] := by
  unfold f_X8_readCommand_b156 at hf
  obtain ⟨q1101, hq1101, hf⟩ := obind hf
  refine g_callV (gs' := [MO h0 h1 h2 h3 h4 h5 h6 h7 h8 q1101.2, AI cy 120 h1 v1, AI cy 107 g0 w0]) (rest := []) X dX8_readCommand_156 (c_X8_done l D cy ad h0 h1 h2 h3 h4 h5 h6 h7 h8 v0 y0 hq1101) mf_X8_done mv_X8_done lkm_X8_130 ⟨(Nat.le_of_ble_eq_true rfl), (Nat.le_of_ble_eq_true rfl), (Nat.le_of_ble_eq_true rfl), (Nat.le_of_ble_eq_true rfl)⟩ 0 0 rfl rfl rfl rfl [0, 1, 2] _ (by decide : [0, 1, 2].Perm (List.range 3)) rfl (by decide : [0, 1, 2].Perm (List.range 3)) rfl (Nat.le_of_ble_eq_true rfl) rfl ?_
  refine g_if_eq X 166 dX8_readCommand_159 (by decide) (fun c1102 => ?_) (fun c1102 => ?_)
  · have hf := opos c1102 hf
    refine g_iconst X (0 : Int32) dX8_readCommand_166 (by decide) ?_
    have hf := Option.some.inj hf
    subst hf
    exact g_zret (b := false) X hr dX8_readCommand_167
  · have hf := oneg c1102 hf
    refine g_iconst X (1 : Int32) dX8_readCommand_162 (by decide) ?_
    refine g_goto X 167 dX8_readCommand_163 (by decide) ?_
    have hf := Option.some.inj hf
    subst hf
    exact g_zret (b := true) X hr dX8_readCommand_167
def f_X8_readCommand (v0 : MOv) (v1 : Fn) (w0 : Fn) : Option (Bool × MOv × Fn) :=
  (f_X8_sign v0 v1).bind (fun q1085 => if q1085 = (97 : Int32) then (f_X8_figures (v0.1, v0.2.1, v0.2.2.1, v0.2.2.2.1, (v0.2.2.2.2.1 + (1 : Int32)), v0.2.2.2.2.2) v1 (0 : Int32) (2 : Int32) (1 : Int32) (20 : Int32)).bind (fun q1098 => (f_X8_figures q1098.2 v1 q1098.1 (2 : Int32) (1 : Int32) (20 : Int32)).bind (fun q1099 => if q1099.1 = (-1 : Int32) then some (false, q1099.2, w0) else (f_X8_armsOn w0 q1098.1 q1099.1).bind (fun q1100 => if q1100.1 < 0 then f_X8_readCommand_b156 q1099.2 v1 q1100.2 false else f_X8_readCommand_b156 q1099.2 v1 q1100.2 true))) else if q1085 = (119 : Int32) then (f_X8_letters (v0.1, v0.2.1, v0.2.2.1, v0.2.2.2.1, (v0.2.2.2.2.1 + (1 : Int32)), v0.2.2.2.2.2) v1 (118 : Int32)).bind (fun q1088 => if q1088.1 = (-1 : Int32) then f_X8_readCommand_b64 q1088.2 v1 w0 q1088.1 (-1 : Int32) else (f_X8_letters q1088.2 v1 (46 : Int32)).bind (fun q1089 => f_X8_readCommand_b64 q1089.2 v1 w0 q1088.1 q1089.1)) else some (false, v0, w0))
set_option maxRecDepth 100000 in
set_option maxHeartbeats 4000000 in
theorem c_X8_readCommand (l : Launch) (D : va_G) (cy : Nat → ClassId) (ad : (Nat → Nat) × (Nat → Nat)) (h0 : Nat) (h1 : Nat) (h2 : Nat) (h3 : Nat) (h4 : Nat) (h5 : Nat) (h6 : Nat) (h7 : Nat) (h8 : Nat) (g0 : Nat) (v0 : MOv) (v1 : Fn) (w0 : Fn) {q : Bool × MOv × Fn} (hf : f_X8_readCommand v0 v1 w0 = some q) : CM l yX8_readCommand cX8_readCommand 4 (some .boolean) rmX8_readCommand D cy ad [.ref h0, .ref g0] [MO h0 h1 h2 h3 h4 h5 h6 h7 h8 v0, AI cy 120 h1 v1, AI cy 107 g0 w0] (some (.int (b2i q.1))) [MO h0 h1 h2 h3 h4 h5 h6 h7 h8 q.2.1, AI cy 120 h1 v1, AI cy 107 g0 q.2.2] := by
  refine cm_of (lv0 := [(0, .ref h0), (1, .ref g0)]) (by decide) (Nat.le_of_ble_eq_true rfl) rfl ?_
  intro p e s m args below meth c A X hr hn
  have X : gK p s m args meth c A D cy ad cX8_readCommand 4 RX8 := X
  unfold f_X8_readCommand at hf
  refine g_aload_n X dX8_readCommand_0 0 rfl rfl ?_
  obtain ⟨q1085, hq1085, hf⟩ := obind hf
  refine g_callV (gs' := [MO h0 h1 h2 h3 h4 h5 h6 h7 h8 v0, AI cy 120 h1 v1, AI cy 107 g0 w0]) (rest := []) X dX8_readCommand_1 (c_X8_sign l D cy ad h0 h1 h2 h3 h4 h5 h6 h7 h8 v0 v1 hq1085) mf_X8_sign mv_X8_sign lkm_X8_109 ⟨(Nat.le_of_ble_eq_true rfl), (Nat.le_of_ble_eq_true rfl), (Nat.le_of_ble_eq_true rfl), (Nat.le_of_ble_eq_true rfl)⟩ 0 0 rfl rfl rfl rfl [0, 1, 2] _ (by decide : [0, 1, 2].Perm (List.range 3)) rfl (by decide : [0, 1, 2].Perm (List.range 3)) rfl (Nat.le_of_ble_eq_true rfl) rfl ?_
  by_cases c1086 : q1085 = (97 : Int32)
  · have hf := opos c1086 hf
    refine g_lookup X 106 dX8_readCommand_4 (by decide) (off := 102) (by rw [c1086]; decide) (by decide) ?_
    refine g_aload_n X dX8_readCommand_106 0 rfl rfl ?_
    refine g_dup X dX8_readCommand_107 rfl ?_
    refine g_get X dX8_readCommand_108 ck_X8 0 0 12 rfl rfl (Nat.le_of_ble_eq_true rfl) lkf_X8_106 rfl ?_
    refine g_iconst X (1 : Int32) dX8_readCommand_111 (by decide) ?_
    refine g_iadd X dX8_readCommand_112 ?_
    refine g_put (gs' := [MO h0 h1 h2 h3 h4 h5 h6 h7 h8 (v0.1, v0.2.1, v0.2.2.1, v0.2.2.2.1, (v0.2.2.2.2.1 + (1 : Int32)), v0.2.2.2.2.2), AI cy 120 h1 v1, AI cy 107 g0 w0]) X dX8_readCommand_113 ck_X8 ct_X8 0 0 12 rfl rfl (Nat.le_of_ble_eq_true rfl) lkf_X8_106 rfl rfl rfl (Nat.le_of_ble_eq_true rfl) rfl ?_
    refine g_aload_n X dX8_readCommand_116 0 rfl rfl ?_
    refine g_iconst X (0 : Int32) dX8_readCommand_117 (by decide) ?_
    refine g_iconst X (2 : Int32) dX8_readCommand_118 (by decide) ?_
    refine g_iconst X (1 : Int32) dX8_readCommand_119 (by decide) ?_
    refine g_bipush X (20 : Int32) dX8_readCommand_120 (by decide) ?_
    obtain ⟨q1098, hq1098, hf⟩ := obind hf
    refine g_callV (gs' := [MO h0 h1 h2 h3 h4 h5 h6 h7 h8 q1098.2, AI cy 120 h1 v1, AI cy 107 g0 w0]) (rest := []) X dX8_readCommand_122 (c_X8_figures l D cy ad h0 h1 h2 h3 h4 h5 h6 h7 h8 (v0.1, v0.2.1, v0.2.2.1, v0.2.2.2.1, (v0.2.2.2.2.1 + (1 : Int32)), v0.2.2.2.2.2) v1 (0 : Int32) (2 : Int32) (1 : Int32) (20 : Int32) hq1098) mf_X8_figures mv_X8_figures lkm_X8_134 ⟨(Nat.le_of_ble_eq_true rfl), (Nat.le_of_ble_eq_true rfl), (Nat.le_of_ble_eq_true rfl), (Nat.le_of_ble_eq_true rfl)⟩ 0 0 rfl rfl rfl rfl [0, 1, 2] _ (by decide : [0, 1, 2].Perm (List.range 3)) rfl (by decide : [0, 1, 2].Perm (List.range 3)) rfl (Nat.le_of_ble_eq_true rfl) rfl ?_
    refine g_istore_n (lv' := [(0, .ref h0), (1, .ref g0), (2, .int q1098.1)]) X dX8_readCommand_125 [1, 2, 0] rfl (Nat.le_of_ble_eq_true rfl) rfl ?_
    refine g_aload_n X dX8_readCommand_126 0 rfl rfl ?_
    refine g_iload_n X dX8_readCommand_127 2 rfl rfl ?_
    refine g_iconst X (2 : Int32) dX8_readCommand_128 (by decide) ?_
    refine g_iconst X (1 : Int32) dX8_readCommand_129 (by decide) ?_
    refine g_bipush X (20 : Int32) dX8_readCommand_130 (by decide) ?_
    obtain ⟨q1099, hq1099, hf⟩ := obind hf
    refine g_callV (gs' := [MO h0 h1 h2 h3 h4 h5 h6 h7 h8 q1099.2, AI cy 120 h1 v1, AI cy 107 g0 w0]) (rest := []) X dX8_readCommand_132 (c_X8_figures l D cy ad h0 h1 h2 h3 h4 h5 h6 h7 h8 q1098.2 v1 q1098.1 (2 : Int32) (1 : Int32) (20 : Int32) hq1099) mf_X8_figures mv_X8_figures lkm_X8_134 ⟨(Nat.le_of_ble_eq_true rfl), (Nat.le_of_ble_eq_true rfl), (Nat.le_of_ble_eq_true rfl), (Nat.le_of_ble_eq_true rfl)⟩ 0 0 rfl rfl rfl rfl [0, 1, 2] _ (by decide : [0, 1, 2].Perm (List.range 3)) rfl (by decide : [0, 1, 2].Perm (List.range 3)) rfl (Nat.le_of_ble_eq_true rfl) rfl ?_
    refine g_istore_n (lv' := [(0, .ref h0), (1, .ref g0), (2, .int q1098.1), (3, .int q1099.1)]) X dX8_readCommand_135 [1, 2, 3, 0] rfl (Nat.le_of_ble_eq_true rfl) rfl ?_
    refine g_iload_n X dX8_readCommand_136 3 rfl rfl ?_
    refine g_iconst X (-1 : Int32) dX8_readCommand_137 (by decide) ?_
    refine g_icmp_eq X 166 dX8_readCommand_138 (by decide) (fun c1104 => ?_) (fun c1104 => ?_)
    · have hf := opos c1104 hf
      refine g_iconst X (0 : Int32) dX8_readCommand_166 (by decide) ?_
      have hf := Option.some.inj hf
      subst hf
      exact g_zret (b := false) X hr dX8_readCommand_167
    · have hf := oneg c1104 hf
      refine g_aload_n X dX8_readCommand_141 0 rfl rfl ?_
      refine g_aload_n X dX8_readCommand_142 1 rfl rfl ?_
      refine g_iload_n X dX8_readCommand_143 2 rfl rfl ?_
      refine g_iload_n X dX8_readCommand_144 3 rfl rfl ?_
      obtain ⟨q1100, hq1100, hf⟩ := obind hf
      refine g_callS (gs' := [MO h0 h1 h2 h3 h4 h5 h6 h7 h8 q1099.2, AI cy 120 h1 v1, AI cy 107 g0 q1100.2]) (rest := [.ref h0]) X dX8_readCommand_145 (c_X8_armsOn l D cy ad g0 w0 q1098.1 q1099.1 hq1100) mf_X8_armsOn ms_X8_armsOn lkm_X8_138 ⟨(Nat.le_of_ble_eq_true rfl), (Nat.le_of_ble_eq_true rfl), (Nat.le_of_ble_eq_true rfl), (Nat.le_of_ble_eq_true rfl)⟩ [2, 0, 1] _ (by decide : [2, 0, 1].Perm (List.range 3)) rfl (by decide : [2, 0, 1].Perm (List.range 3)) rfl (Nat.le_of_ble_eq_true rfl) rfl ?_
      refine g_if_lt X 155 dX8_readCommand_148 (by decide) (fun c1103 => ?_) (fun c1103 => ?_)
      · have hf := opos c1103 hf
        refine g_iconst X (0 : Int32) dX8_readCommand_155 (by decide) ?_
        refine g_sub [] (lv' := []) rfl ?_
        exact j_X8_readCommand_b156 X hr q1099.2 v1 q1100.2 false hf
      · have hf := oneg c1103 hf
        refine g_iconst X (1 : Int32) dX8_readCommand_151 (by decide) ?_
        refine g_goto X 156 dX8_readCommand_152 (by decide) ?_
        refine g_sub [] (lv' := []) rfl ?_
        exact j_X8_readCommand_b156 X hr q1099.2 v1 q1100.2 true hf
  · have hf := oneg c1086 hf
    by_cases c1087 : q1085 = (119 : Int32)
    · have hf := opos c1087 hf
      refine g_lookup X 32 dX8_readCommand_4 (by decide) (off := 28) (by rw [c1087]; decide) (by decide) ?_
      refine g_aload_n X dX8_readCommand_32 0 rfl rfl ?_
      refine g_dup X dX8_readCommand_33 rfl ?_
      refine g_get X dX8_readCommand_34 ck_X8 0 0 12 rfl rfl (Nat.le_of_ble_eq_true rfl) lkf_X8_106 rfl ?_
      refine g_iconst X (1 : Int32) dX8_readCommand_37 (by decide) ?_
      refine g_iadd X dX8_readCommand_38 ?_
      refine g_put (gs' := [MO h0 h1 h2 h3 h4 h5 h6 h7 h8 (v0.1, v0.2.1, v0.2.2.1, v0.2.2.2.1, (v0.2.2.2.2.1 + (1 : Int32)), v0.2.2.2.2.2), AI cy 120 h1 v1, AI cy 107 g0 w0]) X dX8_readCommand_39 ck_X8 ct_X8 0 0 12 rfl rfl (Nat.le_of_ble_eq_true rfl) lkf_X8_106 rfl rfl rfl (Nat.le_of_ble_eq_true rfl) rfl ?_
      refine g_aload_n X dX8_readCommand_42 0 rfl rfl ?_
      refine g_bipush X (118 : Int32) dX8_readCommand_43 (by decide) ?_
      obtain ⟨q1088, hq1088, hf⟩ := obind hf
      refine g_callV (gs' := [MO h0 h1 h2 h3 h4 h5 h6 h7 h8 q1088.2, AI cy 120 h1 v1, AI cy 107 g0 w0]) (rest := []) X dX8_readCommand_45 (c_X8_letters l D cy ad h0 h1 h2 h3 h4 h5 h6 h7 h8 (v0.1, v0.2.1, v0.2.2.1, v0.2.2.2.1, (v0.2.2.2.2.1 + (1 : Int32)), v0.2.2.2.2.2) v1 (118 : Int32) hq1088) mf_X8_letters mv_X8_letters lkm_X8_120 ⟨(Nat.le_of_ble_eq_true rfl), (Nat.le_of_ble_eq_true rfl), (Nat.le_of_ble_eq_true rfl), (Nat.le_of_ble_eq_true rfl)⟩ 0 0 rfl rfl rfl rfl [0, 1, 2] _ (by decide : [0, 1, 2].Perm (List.range 3)) rfl (by decide : [0, 1, 2].Perm (List.range 3)) rfl (Nat.le_of_ble_eq_true rfl) rfl ?_
      refine g_istore_n (lv' := [(0, .ref h0), (1, .ref g0), (2, .int q1088.1)]) X dX8_readCommand_48 [1, 2, 0] rfl (Nat.le_of_ble_eq_true rfl) rfl ?_
      refine g_iload_n X dX8_readCommand_49 2 rfl rfl ?_
      refine g_iconst X (-1 : Int32) dX8_readCommand_50 (by decide) ?_
      refine g_icmp_ne X 58 dX8_readCommand_51 (by decide) (fun c1097 => ?_) (fun c1097 => ?_)
      · have hf := oneg c1097 hf
        refine g_aload_n X dX8_readCommand_58 0 rfl rfl ?_
        refine g_bipush X (46 : Int32) dX8_readCommand_59 (by decide) ?_
        obtain ⟨q1089, hq1089, hf⟩ := obind hf
        refine g_callV (gs' := [MO h0 h1 h2 h3 h4 h5 h6 h7 h8 q1089.2, AI cy 120 h1 v1, AI cy 107 g0 w0]) (rest := []) X dX8_readCommand_61 (c_X8_letters l D cy ad h0 h1 h2 h3 h4 h5 h6 h7 h8 q1088.2 v1 (46 : Int32) hq1089) mf_X8_letters mv_X8_letters lkm_X8_120 ⟨(Nat.le_of_ble_eq_true rfl), (Nat.le_of_ble_eq_true rfl), (Nat.le_of_ble_eq_true rfl), (Nat.le_of_ble_eq_true rfl)⟩ 0 0 rfl rfl rfl rfl [0, 1, 2] _ (by decide : [0, 1, 2].Perm (List.range 3)) rfl (by decide : [0, 1, 2].Perm (List.range 3)) rfl (Nat.le_of_ble_eq_true rfl) rfl ?_
        exact j_X8_readCommand_b64 X hr q1089.2 v1 w0 q1088.1 q1089.1 hf
      · have hf := opos c1097 hf
        refine g_iconst X (-1 : Int32) dX8_readCommand_54 (by decide) ?_
        refine g_goto X 64 dX8_readCommand_55 (by decide) ?_
        exact j_X8_readCommand_b64 X hr q1088.2 v1 w0 q1088.1 (-1 : Int32) hf
    · have hf := oneg c1087 hf
      have ec1086 := sw_ne (by decide : ((97 : Int32)).toInt = 97) c1086
      have ec1087 := sw_ne (by decide : ((119 : Int32)).toInt = 119) c1087
      refine g_lookup X 168 dX8_readCommand_4 (by decide) (off := 164) (sw_lk2 ec1086 ec1087) (by decide) ?_
      refine g_iconst X (0 : Int32) dX8_readCommand_168 (by decide) ?_
      have hf := Option.some.inj hf
      subst hf
      exact g_zret (b := false) X hr dX8_readCommand_169
abbrev rmX8_readCase : Room := ({ frames := 2, cells := 0, slots := 0, locals := 53 } : Room)
def f_X8_readCase_b136 (v0 : MOv) (v1 : Fn) (w0 : Fn) (x5 : Int32) (y0 : Int32) (y1 : Int32) (y2 : Int32) : Option (Bool × MOv × Fn) :=
  (f_X8_hideOn w0 y2 ((y1 * y0) + x5)).bind (fun q1125 => some (true, v0, q1125.2))
set_option maxRecDepth 100000 in
set_option maxHeartbeats 4000000 in
theorem j_X8_readCase_b136 {p : Program} {l : Launch} {e : Env} {s : State} {m : MethodId} {args : Array Value} {below : List Frame} {meth : Method} {c : Code} {A : Nat → Prop} {D : va_G} {cy : Nat → ClassId} {ad : (Nat → Nat) × (Nat → Nat)} (X : gK p s m args meth c A D cy ad cX8_readCase 6 RX8) (hr : meth.sig.returnType = (some .boolean)) {h0 h1 h2 h3 h4 h5 h6 h7 h8 g0 : Nat} (v0 : MOv) (v1 : Fn) (w0 : Fn) (x5 : Int32) (y0 : Int32) (y1 : Int32) (y2 : Int32) {q : Bool × MOv × Fn} (hf : f_X8_readCase_b136 v0 v1 w0 x5 y0 y1 y2 = some q) : GW p l e rmX8_readCase s m args below meth c A D 6 0 0 (MQ below (cmQ D cy A (some (.int (b2i q.1))) ([MO h0 h1 h2 h3 h4 h5 h6 h7 h8 q.2.1, AI cy 120 h1 v1, AI cy 107 g0 q.2.2] : List va_W).flatten) args s 0 0 A) 136 [(5, .int x5)] [.int y0, .int y1, .int y2, .ref g0] [MO h0 h1 h2 h3 h4 h5 h6 h7 h8 v0, AI cy 120 h1 v1, AI cy 107 g0 w0] := by
  unfold f_X8_readCase_b136 at hf
  refine g_imul X dX8_readCase_136 ?_
  refine g_iload X dX8_readCase_137 0 rfl ?_
  refine g_iadd X dX8_readCase_139 ?_
  obtain ⟨q1125, hq1125, hf⟩ := obind hf
  refine g_callS (gs' := [MO h0 h1 h2 h3 h4 h5 h6 h7 h8 v0, AI cy 120 h1 v1, AI cy 107 g0 q1125.2]) (rest := []) X dX8_readCase_140 (c_X8_hideOn l D cy ad g0 w0 y2 ((y1 * y0) + x5) hq1125) mf_X8_hideOn ms_X8_hideOn lkm_X8_141 ⟨(Nat.le_of_ble_eq_true rfl), (Nat.le_of_ble_eq_true rfl), (Nat.le_of_ble_eq_true rfl), (Nat.le_of_ble_eq_true rfl)⟩ [2, 0, 1] _ (by decide : [2, 0, 1].Perm (List.range 3)) rfl (by decide : [2, 0, 1].Perm (List.range 3)) rfl (Nat.le_of_ble_eq_true rfl) rfl ?_
  refine g_pop X dX8_readCase_143 rfl ?_
  refine g_iconst X (1 : Int32) dX8_readCase_144 (by decide) ?_
  have hf := Option.some.inj hf
  subst hf
  exact g_zret (b := true) X hr dX8_readCase_145
def f_X8_readCase_b124 (v0 : MOv) (v1 : Fn) (w0 : Fn) (x2 : Int32) (x5 : Int32) (y0 : Int32) (y1 : Int32) : Option (Bool × MOv × Fn) :=
  f_X8_readCase_b136 v0 v1 w0 x5 ((2 : Int32) * x2) y0 y1
set_option maxRecDepth 100000 in
set_option maxHeartbeats 4000000 in
theorem j_X8_readCase_b124 {p : Program} {l : Launch} {e : Env} {s : State} {m : MethodId} {args : Array Value} {below : List Frame} {meth : Method} {c : Code} {A : Nat → Prop} {D : va_G} {cy : Nat → ClassId} {ad : (Nat → Nat) × (Nat → Nat)} (X : gK p s m args meth c A D cy ad cX8_readCase 6 RX8) (hr : meth.sig.returnType = (some .boolean)) {h0 h1 h2 h3 h4 h5 h6 h7 h8 g0 : Nat} (v0 : MOv) (v1 : Fn) (w0 : Fn) (x2 : Int32) (x5 : Int32) (y0 : Int32) (y1 : Int32) {q : Bool × MOv × Fn} (hf : f_X8_readCase_b124 v0 v1 w0 x2 x5 y0 y1 = some q) : GW p l e rmX8_readCase s m args below meth c A D 6 0 0 (MQ below (cmQ D cy A (some (.int (b2i q.1))) ([MO h0 h1 h2 h3 h4 h5 h6 h7 h8 q.2.1, AI cy 120 h1 v1, AI cy 107 g0 q.2.2] : List va_W).flatten) args s 0 0 A) 124 [(2, .int x2), (5, .int x5)] [.int y0, .int y1, .ref g0] [MO h0 h1 h2 h3 h4 h5 h6 h7 h8 v0, AI cy 120 h1 v1, AI cy 107 g0 w0] := by
  unfold f_X8_readCase_b124 at hf
  refine g_iconst X (2 : Int32) dX8_readCase_124 (by decide) ?_
  refine g_iload_n X dX8_readCase_125 0 rfl rfl ?_
  refine g_imul X dX8_readCase_126 ?_
  refine g_goto X 136 dX8_readCase_127 (by decide) ?_
  refine g_sub [1] (lv' := [(5, .int x5)]) rfl ?_
  exact j_X8_readCase_b136 X hr v0 v1 w0 x5 ((2 : Int32) * x2) y0 y1 hf
def f_X8_readCase_b87 (v0 : MOv) (v1 : Fn) (w0 : Fn) (x2 : Int32) (x3 : Int32) (x4 : Int32) (y0 : Bool) (y1 : Int32) : Option (Bool × MOv × Fn) :=
  (f_X8_figures (v0.1, v0.2.1, v0.2.2.1, v0.2.2.2.1, (y1 + (b2i y0)), v0.2.2.2.2.2) v1 x4 (1 : Int32) (0 : Int32) (2 : Int32)).bind (fun q1124 => if q1124.1 = (-1 : Int32) then some (false, q1124.2, w0) else if x4 = (2 : Int32) then f_X8_readCase_b124 q1124.2 v1 w0 x2 q1124.1 (3 : Int32) x2 else if x3 < x2 then f_X8_readCase_b136 q1124.2 v1 w0 q1124.1 (((2 : Int32) * x3) + x4) (3 : Int32) x2 else f_X8_readCase_b124 q1124.2 v1 w0 x2 q1124.1 (3 : Int32) x2)
set_option maxRecDepth 100000 in
set_option maxHeartbeats 4000000 in
theorem j_X8_readCase_b87 {p : Program} {l : Launch} {e : Env} {s : State} {m : MethodId} {args : Array Value} {below : List Frame} {meth : Method} {c : Code} {A : Nat → Prop} {D : va_G} {cy : Nat → ClassId} {ad : (Nat → Nat) × (Nat → Nat)} (X : gK p s m args meth c A D cy ad cX8_readCase 6 RX8) (hr : meth.sig.returnType = (some .boolean)) {h0 h1 h2 h3 h4 h5 h6 h7 h8 g0 : Nat} (v0 : MOv) (v1 : Fn) (w0 : Fn) (x2 : Int32) (x3 : Int32) (x4 : Int32) (y0 : Bool) (y1 : Int32) {q : Bool × MOv × Fn} (hf : f_X8_readCase_b87 v0 v1 w0 x2 x3 x4 y0 y1 = some q) : GW p l e rmX8_readCase s m args below meth c A D 6 0 0 (MQ below (cmQ D cy A (some (.int (b2i q.1))) ([MO h0 h1 h2 h3 h4 h5 h6 h7 h8 q.2.1, AI cy 120 h1 v1, AI cy 107 g0 q.2.2] : List va_W).flatten) args s 0 0 A) 87 [(0, .ref h0), (1, .ref g0), (2, .int x2), (3, .int x3), (4, .int x4)] [.int (b2i y0), .int y1, .ref h0] [MO h0 h1 h2 h3 h4 h5 h6 h7 h8 v0, AI cy 120 h1 v1, AI cy 107 g0 w0] := by
  unfold f_X8_readCase_b87 at hf
  refine g_iadd X dX8_readCase_87 ?_
  refine g_put (gs' := [MO h0 h1 h2 h3 h4 h5 h6 h7 h8 (v0.1, v0.2.1, v0.2.2.1, v0.2.2.2.1, (y1 + (b2i y0)), v0.2.2.2.2.2), AI cy 120 h1 v1, AI cy 107 g0 w0]) X dX8_readCase_88 ck_X8 ct_X8 0 0 12 rfl rfl (Nat.le_of_ble_eq_true rfl) lkf_X8_106 rfl rfl rfl (Nat.le_of_ble_eq_true rfl) rfl ?_
  refine g_aload_n X dX8_readCase_91 0 rfl rfl ?_
  refine g_iload X dX8_readCase_92 4 rfl ?_
  refine g_iconst X (1 : Int32) dX8_readCase_94 (by decide) ?_
  refine g_iconst X (0 : Int32) dX8_readCase_95 (by decide) ?_
  refine g_iconst X (2 : Int32) dX8_readCase_96 (by decide) ?_
  obtain ⟨q1124, hq1124, hf⟩ := obind hf
  refine g_callV (gs' := [MO h0 h1 h2 h3 h4 h5 h6 h7 h8 q1124.2, AI cy 120 h1 v1, AI cy 107 g0 w0]) (rest := []) X dX8_readCase_97 (c_X8_figures l D cy ad h0 h1 h2 h3 h4 h5 h6 h7 h8 (v0.1, v0.2.1, v0.2.2.1, v0.2.2.2.1, (y1 + (b2i y0)), v0.2.2.2.2.2) v1 x4 (1 : Int32) (0 : Int32) (2 : Int32) hq1124) mf_X8_figures mv_X8_figures lkm_X8_134 ⟨(Nat.le_of_ble_eq_true rfl), (Nat.le_of_ble_eq_true rfl), (Nat.le_of_ble_eq_true rfl), (Nat.le_of_ble_eq_true rfl)⟩ 0 0 rfl rfl rfl rfl [0, 1, 2] _ (by decide : [0, 1, 2].Perm (List.range 3)) rfl (by decide : [0, 1, 2].Perm (List.range 3)) rfl (Nat.le_of_ble_eq_true rfl) rfl ?_
  refine g_istore (lv' := [(0, .ref h0), (1, .ref g0), (2, .int x2), (3, .int x3), (4, .int x4), (5, .int q1124.1)]) X dX8_readCase_100 [1, 2, 3, 4, 5, 0] (Nat.le_of_ble_eq_true rfl) rfl ?_
  refine g_iload X dX8_readCase_102 5 rfl ?_
  refine g_iconst X (-1 : Int32) dX8_readCase_104 (by decide) ?_
  refine g_icmp_ne X 110 dX8_readCase_105 (by decide) (fun c1128 => ?_) (fun c1128 => ?_)
  · have hf := oneg c1128 hf
    refine g_aload_n X dX8_readCase_110 1 rfl rfl ?_
    refine g_iload_n X dX8_readCase_111 2 rfl rfl ?_
    refine g_iconst X (3 : Int32) dX8_readCase_112 (by decide) ?_
    refine g_iload X dX8_readCase_113 4 rfl ?_
    refine g_iconst X (2 : Int32) dX8_readCase_115 (by decide) ?_
    refine g_icmp_eq X 124 dX8_readCase_116 (by decide) (fun c1127 => ?_) (fun c1127 => ?_)
    · have hf := opos c1127 hf
      refine g_sub [2, 5] (lv' := [(2, .int x2), (5, .int q1124.1)]) rfl ?_
      exact j_X8_readCase_b124 X hr q1124.2 v1 w0 x2 q1124.1 (3 : Int32) x2 hf
    · have hf := oneg c1127 hf
      refine g_iload_n X dX8_readCase_119 3 rfl rfl ?_
      refine g_iload_n X dX8_readCase_120 2 rfl rfl ?_
      refine g_icmp_lt X 130 dX8_readCase_121 (by decide) (fun c1126 => ?_) (fun c1126 => ?_)
      · have hf := opos c1126 hf
        refine g_iconst X (2 : Int32) dX8_readCase_130 (by decide) ?_
        refine g_iload_n X dX8_readCase_131 3 rfl rfl ?_
        refine g_imul X dX8_readCase_132 ?_
        refine g_iload X dX8_readCase_133 4 rfl ?_
        refine g_iadd X dX8_readCase_135 ?_
        refine g_sub [5] (lv' := [(5, .int q1124.1)]) rfl ?_
        exact j_X8_readCase_b136 X hr q1124.2 v1 w0 q1124.1 (((2 : Int32) * x3) + x4) (3 : Int32) x2 hf
      · have hf := oneg c1126 hf
        refine g_sub [2, 5] (lv' := [(2, .int x2), (5, .int q1124.1)]) rfl ?_
        exact j_X8_readCase_b124 X hr q1124.2 v1 w0 x2 q1124.1 (3 : Int32) x2 hf
  · have hf := opos c1128 hf
    refine g_iconst X (0 : Int32) dX8_readCase_108 (by decide) ?_
    have hf := Option.some.inj hf
    subst hf
    exact g_zret (b := false) X hr dX8_readCase_109
def f_X8_readCase_b69 (v0 : MOv) (v1 : Fn) (w0 : Fn) (x2 : Int32) (x3 : Int32) (y0 : Int32) : Option (Bool × MOv × Fn) :=
  if y0 = (-1 : Int32) then f_X8_readCase_b87 v0 v1 w0 x2 x3 y0 false v0.2.2.2.2.1 else f_X8_readCase_b87 v0 v1 w0 x2 x3 y0 true v0.2.2.2.2.1
set_option maxRecDepth 100000 in
set_option maxHeartbeats 4000000 in
theorem j_X8_readCase_b69 {p : Program} {l : Launch} {e : Env} {s : State} {m : MethodId} {args : Array Value} {below : List Frame} {meth : Method} {c : Code} {A : Nat → Prop} {D : va_G} {cy : Nat → ClassId} {ad : (Nat → Nat) × (Nat → Nat)} (X : gK p s m args meth c A D cy ad cX8_readCase 6 RX8) (hr : meth.sig.returnType = (some .boolean)) {h0 h1 h2 h3 h4 h5 h6 h7 h8 g0 : Nat} (v0 : MOv) (v1 : Fn) (w0 : Fn) (x2 : Int32) (x3 : Int32) (y0 : Int32) {q : Bool × MOv × Fn} (hf : f_X8_readCase_b69 v0 v1 w0 x2 x3 y0 = some q) : GW p l e rmX8_readCase s m args below meth c A D 6 0 0 (MQ below (cmQ D cy A (some (.int (b2i q.1))) ([MO h0 h1 h2 h3 h4 h5 h6 h7 h8 q.2.1, AI cy 120 h1 v1, AI cy 107 g0 q.2.2] : List va_W).flatten) args s 0 0 A) 69 [(0, .ref h0), (1, .ref g0), (2, .int x2), (3, .int x3)] [.int y0] [MO h0 h1 h2 h3 h4 h5 h6 h7 h8 v0, AI cy 120 h1 v1, AI cy 107 g0 w0] := by
  unfold f_X8_readCase_b69 at hf
  refine g_istore (lv' := [(0, .ref h0), (1, .ref g0), (2, .int x2), (3, .int x3), (4, .int y0)]) X dX8_readCase_69 [1, 2, 3, 4, 0] (Nat.le_of_ble_eq_true rfl) rfl ?_
  refine g_aload_n X dX8_readCase_71 0 rfl rfl ?_
  refine g_dup X dX8_readCase_72 rfl ?_
  refine g_get X dX8_readCase_73 ck_X8 0 0 12 rfl rfl (Nat.le_of_ble_eq_true rfl) lkf_X8_106 rfl ?_
  refine g_iload X dX8_readCase_76 4 rfl ?_
  refine g_iconst X (-1 : Int32) dX8_readCase_78 (by decide) ?_
  refine g_icmp_ne X 86 dX8_readCase_79 (by decide) (fun c1129 => ?_) (fun c1129 => ?_)
  · have hf := oneg c1129 hf
    refine g_iconst X (1 : Int32) dX8_readCase_86 (by decide) ?_
    exact j_X8_readCase_b87 X hr v0 v1 w0 x2 x3 y0 true v0.2.2.2.2.1 hf
  · have hf := opos c1129 hf
    refine g_iconst X (0 : Int32) dX8_readCase_82 (by decide) ?_
    refine g_goto X 87 dX8_readCase_83 (by decide) ?_
    exact j_X8_readCase_b87 X hr v0 v1 w0 x2 x3 y0 false v0.2.2.2.2.1 hf
def f_X8_readCase (v0 : MOv) (v1 : Fn) (w0 : Fn) : Option (Bool × MOv × Fn) :=
  (f_X8_figures v0 v1 (0 : Int32) (2 : Int32) (3 : Int32) (12 : Int32)).bind (fun q1119 => (f_X8_figures q1119.2 v1 q1119.1 (2 : Int32) (0 : Int32) (11 : Int32)).bind (fun q1120 => if q1120.1 = (-1 : Int32) then f_X8_readCase_b69 q1120.2 v1 w0 q1119.1 q1120.1 (-1 : Int32) else (f_X8_sign q1120.2 v1).bind (fun q1121 => if q1121 = (108 : Int32) then f_X8_readCase_b69 q1120.2 v1 w0 q1119.1 q1120.1 (0 : Int32) else (f_X8_sign q1120.2 v1).bind (fun q1122 => if q1122 = (104 : Int32) then f_X8_readCase_b69 q1120.2 v1 w0 q1119.1 q1120.1 (1 : Int32) else (f_X8_sign q1120.2 v1).bind (fun q1123 => if q1123 = (116 : Int32) then f_X8_readCase_b69 q1120.2 v1 w0 q1119.1 q1120.1 (2 : Int32) else f_X8_readCase_b69 q1120.2 v1 w0 q1119.1 q1120.1 (-1 : Int32))))))
set_option maxRecDepth 100000 in
set_option maxHeartbeats 4000000 in
theorem c_X8_readCase (l : Launch) (D : va_G) (cy : Nat → ClassId) (ad : (Nat → Nat) × (Nat → Nat)) (h0 : Nat) (h1 : Nat) (h2 : Nat) (h3 : Nat) (h4 : Nat) (h5 : Nat) (h6 : Nat) (h7 : Nat) (h8 : Nat) (g0 : Nat) (v0 : MOv) (v1 : Fn) (w0 : Fn) {q : Bool × MOv × Fn} (hf : f_X8_readCase v0 v1 w0 = some q) : CM l yX8_readCase cX8_readCase 6 (some .boolean) rmX8_readCase D cy ad [.ref h0, .ref g0] [MO h0 h1 h2 h3 h4 h5 h6 h7 h8 v0, AI cy 120 h1 v1, AI cy 107 g0 w0] (some (.int (b2i q.1))) [MO h0 h1 h2 h3 h4 h5 h6 h7 h8 q.2.1, AI cy 120 h1 v1, AI cy 107 g0 q.2.2] := by
  refine cm_of (lv0 := [(0, .ref h0), (1, .ref g0)]) (by decide) (Nat.le_of_ble_eq_true rfl) rfl ?_
  intro p e s m args below meth c A X hr hn
  have X : gK p s m args meth c A D cy ad cX8_readCase 6 RX8 := X
  unfold f_X8_readCase at hf
  refine g_aload_n X dX8_readCase_0 0 rfl rfl ?_
  refine g_iconst X (0 : Int32) dX8_readCase_1 (by decide) ?_
  refine g_iconst X (2 : Int32) dX8_readCase_2 (by decide) ?_
  refine g_iconst X (3 : Int32) dX8_readCase_3 (by decide) ?_
  refine g_bipush X (12 : Int32) dX8_readCase_4 (by decide) ?_
  obtain ⟨q1119, hq1119, hf⟩ := obind hf
  refine g_callV (gs' := [MO h0 h1 h2 h3 h4 h5 h6 h7 h8 q1119.2, AI cy 120 h1 v1, AI cy 107 g0 w0]) (rest := []) X dX8_readCase_6 (c_X8_figures l D cy ad h0 h1 h2 h3 h4 h5 h6 h7 h8 v0 v1 (0 : Int32) (2 : Int32) (3 : Int32) (12 : Int32) hq1119) mf_X8_figures mv_X8_figures lkm_X8_134 ⟨(Nat.le_of_ble_eq_true rfl), (Nat.le_of_ble_eq_true rfl), (Nat.le_of_ble_eq_true rfl), (Nat.le_of_ble_eq_true rfl)⟩ 0 0 rfl rfl rfl rfl [0, 1, 2] _ (by decide : [0, 1, 2].Perm (List.range 3)) rfl (by decide : [0, 1, 2].Perm (List.range 3)) rfl (Nat.le_of_ble_eq_true rfl) rfl ?_
  refine g_istore_n (lv' := [(0, .ref h0), (1, .ref g0), (2, .int q1119.1)]) X dX8_readCase_9 [1, 2, 0] rfl (Nat.le_of_ble_eq_true rfl) rfl ?_
  refine g_aload_n X dX8_readCase_10 0 rfl rfl ?_
  refine g_iload_n X dX8_readCase_11 2 rfl rfl ?_
  refine g_iconst X (2 : Int32) dX8_readCase_12 (by decide) ?_
  refine g_iconst X (0 : Int32) dX8_readCase_13 (by decide) ?_
  refine g_bipush X (11 : Int32) dX8_readCase_14 (by decide) ?_
  obtain ⟨q1120, hq1120, hf⟩ := obind hf
  refine g_callV (gs' := [MO h0 h1 h2 h3 h4 h5 h6 h7 h8 q1120.2, AI cy 120 h1 v1, AI cy 107 g0 w0]) (rest := []) X dX8_readCase_16 (c_X8_figures l D cy ad h0 h1 h2 h3 h4 h5 h6 h7 h8 q1119.2 v1 q1119.1 (2 : Int32) (0 : Int32) (11 : Int32) hq1120) mf_X8_figures mv_X8_figures lkm_X8_134 ⟨(Nat.le_of_ble_eq_true rfl), (Nat.le_of_ble_eq_true rfl), (Nat.le_of_ble_eq_true rfl), (Nat.le_of_ble_eq_true rfl)⟩ 0 0 rfl rfl rfl rfl [0, 1, 2] _ (by decide : [0, 1, 2].Perm (List.range 3)) rfl (by decide : [0, 1, 2].Perm (List.range 3)) rfl (Nat.le_of_ble_eq_true rfl) rfl ?_
  refine g_istore_n (lv' := [(0, .ref h0), (1, .ref g0), (2, .int q1119.1), (3, .int q1120.1)]) X dX8_readCase_19 [1, 2, 3, 0] rfl (Nat.le_of_ble_eq_true rfl) rfl ?_
  refine g_iload_n X dX8_readCase_20 3 rfl rfl ?_
  refine g_iconst X (-1 : Int32) dX8_readCase_21 (by decide) ?_
  refine g_icmp_ne X 29 dX8_readCase_22 (by decide) (fun c1133 => ?_) (fun c1133 => ?_)
  · have hf := oneg c1133 hf
    refine g_aload_n X dX8_readCase_29 0 rfl rfl ?_
    obtain ⟨q1121, hq1121, hf⟩ := obind hf
    refine g_callV (gs' := [MO h0 h1 h2 h3 h4 h5 h6 h7 h8 q1120.2, AI cy 120 h1 v1, AI cy 107 g0 w0]) (rest := []) X dX8_readCase_30 (c_X8_sign l D cy ad h0 h1 h2 h3 h4 h5 h6 h7 h8 q1120.2 v1 hq1121) mf_X8_sign mv_X8_sign lkm_X8_109 ⟨(Nat.le_of_ble_eq_true rfl), (Nat.le_of_ble_eq_true rfl), (Nat.le_of_ble_eq_true rfl), (Nat.le_of_ble_eq_true rfl)⟩ 0 0 rfl rfl rfl rfl [0, 1, 2] _ (by decide : [0, 1, 2].Perm (List.range 3)) rfl (by decide : [0, 1, 2].Perm (List.range 3)) rfl (Nat.le_of_ble_eq_true rfl) rfl ?_
    refine g_bipush X (108 : Int32) dX8_readCase_33 (by decide) ?_
    refine g_icmp_ne X 42 dX8_readCase_35 (by decide) (fun c1132 => ?_) (fun c1132 => ?_)
    · have hf := oneg c1132 hf
      refine g_aload_n X dX8_readCase_42 0 rfl rfl ?_
      obtain ⟨q1122, hq1122, hf⟩ := obind hf
      refine g_callV (gs' := [MO h0 h1 h2 h3 h4 h5 h6 h7 h8 q1120.2, AI cy 120 h1 v1, AI cy 107 g0 w0]) (rest := []) X dX8_readCase_43 (c_X8_sign l D cy ad h0 h1 h2 h3 h4 h5 h6 h7 h8 q1120.2 v1 hq1122) mf_X8_sign mv_X8_sign lkm_X8_109 ⟨(Nat.le_of_ble_eq_true rfl), (Nat.le_of_ble_eq_true rfl), (Nat.le_of_ble_eq_true rfl), (Nat.le_of_ble_eq_true rfl)⟩ 0 0 rfl rfl rfl rfl [0, 1, 2] _ (by decide : [0, 1, 2].Perm (List.range 3)) rfl (by decide : [0, 1, 2].Perm (List.range 3)) rfl (Nat.le_of_ble_eq_true rfl) rfl ?_
      refine g_bipush X (104 : Int32) dX8_readCase_46 (by decide) ?_
      refine g_icmp_ne X 55 dX8_readCase_48 (by decide) (fun c1131 => ?_) (fun c1131 => ?_)
      · have hf := oneg c1131 hf
        refine g_aload_n X dX8_readCase_55 0 rfl rfl ?_
        obtain ⟨q1123, hq1123, hf⟩ := obind hf
        refine g_callV (gs' := [MO h0 h1 h2 h3 h4 h5 h6 h7 h8 q1120.2, AI cy 120 h1 v1, AI cy 107 g0 w0]) (rest := []) X dX8_readCase_56 (c_X8_sign l D cy ad h0 h1 h2 h3 h4 h5 h6 h7 h8 q1120.2 v1 hq1123) mf_X8_sign mv_X8_sign lkm_X8_109 ⟨(Nat.le_of_ble_eq_true rfl), (Nat.le_of_ble_eq_true rfl), (Nat.le_of_ble_eq_true rfl), (Nat.le_of_ble_eq_true rfl)⟩ 0 0 rfl rfl rfl rfl [0, 1, 2] _ (by decide : [0, 1, 2].Perm (List.range 3)) rfl (by decide : [0, 1, 2].Perm (List.range 3)) rfl (Nat.le_of_ble_eq_true rfl) rfl ?_
        refine g_bipush X (116 : Int32) dX8_readCase_59 (by decide) ?_
        refine g_icmp_ne X 68 dX8_readCase_61 (by decide) (fun c1130 => ?_) (fun c1130 => ?_)
        · have hf := oneg c1130 hf
          refine g_iconst X (-1 : Int32) dX8_readCase_68 (by decide) ?_
          exact j_X8_readCase_b69 X hr q1120.2 v1 w0 q1119.1 q1120.1 (-1 : Int32) hf
        · have hf := opos c1130 hf
          refine g_iconst X (2 : Int32) dX8_readCase_64 (by decide) ?_
          refine g_goto X 69 dX8_readCase_65 (by decide) ?_
          exact j_X8_readCase_b69 X hr q1120.2 v1 w0 q1119.1 q1120.1 (2 : Int32) hf
      · have hf := opos c1131 hf
        refine g_iconst X (1 : Int32) dX8_readCase_51 (by decide) ?_
        refine g_goto X 69 dX8_readCase_52 (by decide) ?_
        exact j_X8_readCase_b69 X hr q1120.2 v1 w0 q1119.1 q1120.1 (1 : Int32) hf
    · have hf := opos c1132 hf
      refine g_iconst X (0 : Int32) dX8_readCase_38 (by decide) ?_
      refine g_goto X 69 dX8_readCase_39 (by decide) ?_
      exact j_X8_readCase_b69 X hr q1120.2 v1 w0 q1119.1 q1120.1 (0 : Int32) hf
  · have hf := opos c1133 hf
    refine g_iconst X (-1 : Int32) dX8_readCase_25 (by decide) ?_
    refine g_goto X 69 dX8_readCase_26 (by decide) ?_
    exact j_X8_readCase_b69 X hr q1120.2 v1 w0 q1119.1 q1120.1 (-1 : Int32) hf
abbrev rmX8_readText : Room := ({ frames := 5, cells := 0, slots := 0, locals := 116 } : Room)
def f_X8_readText_B43 (v1 : Fn) (z : MOv × Fn) : Option ((MOv × Fn) ⊕ ((MOv × Fn) ⊕ (MOv × Fn))) :=
  if z.1.2.1 ≤ z.1.2.2.2.2.1 then some (.inr (.inr (z.1, z.2))) else (f_X8_readCommand z.1 v1 z.2).bind (fun q1145 => if (b2i q1145.1) = 0 then some (.inr (.inl (q1145.2.1, q1145.2.2))) else some (.inl (q1145.2.1, q1145.2.2)))
set_option maxRecDepth 100000 in
set_option maxHeartbeats 4000000 in
theorem b_X8_readText_B43 {p : Program} {l : Launch} {e : Env} {s : State} {m : MethodId} {args : Array Value} {below : List Frame} {meth : Method} {c : Code} {A : Nat → Prop} {D : va_G} {cy : Nat → ClassId} {ad : (Nat → Nat) × (Nat → Nat)} {Q : State → Prop} (X : gK p s m args meth c A D cy ad cX8_readText 2 RX8) (hr : meth.sig.returnType = (some .int)) {h0 h1 h2 h3 h4 h5 h6 h7 h8 g0 : Nat} (v1 : Fn) (z : MOv × Fn) {q : (MOv × Fn) ⊕ ((MOv × Fn) ⊕ (MOv × Fn))} (hf : f_X8_readText_B43 v1 z = some q) (K1 : ∀ s' : MOv × Fn, q = .inl s' → GW p l e rmX8_readText s m args below meth c A D 2 0 0 Q 43 [(0, .ref h0), (1, .ref g0)] [] [MO h0 h1 h2 h3 h4 h5 h6 h7 h8 (s'.1.1, s'.1.2.1, s'.1.2.2.1, s'.1.2.2.2.1, s'.1.2.2.2.2.1, s'.1.2.2.2.2.2), AI cy 120 h1 v1, AI cy 107 g0 s'.2]) (K2 : ∀ e' : MOv × Fn, q = .inr (.inl e') → GW p l e rmX8_readText s m args below meth c A D 2 0 0 Q 62 [(0, .ref h0)] [] [MO h0 h1 h2 h3 h4 h5 h6 h7 h8 (e'.1.1, e'.1.2.1, e'.1.2.2.1, e'.1.2.2.2.1, e'.1.2.2.2.2.1, e'.1.2.2.2.2.2), AI cy 120 h1 v1, AI cy 107 g0 e'.2]) (K3 : ∀ e' : MOv × Fn, q = .inr (.inr e') → GW p l e rmX8_readText s m args below meth c A D 2 0 0 Q 67 [] [] [MO h0 h1 h2 h3 h4 h5 h6 h7 h8 (e'.1.1, e'.1.2.1, e'.1.2.2.1, e'.1.2.2.2.1, e'.1.2.2.2.2.1, e'.1.2.2.2.2.2), AI cy 120 h1 v1, AI cy 107 g0 e'.2]) : GW p l e rmX8_readText s m args below meth c A D 2 0 0 Q 43 [(0, .ref h0), (1, .ref g0)] [] [MO h0 h1 h2 h3 h4 h5 h6 h7 h8 z.1, AI cy 120 h1 v1, AI cy 107 g0 z.2] := by
  unfold f_X8_readText_B43 at hf
  refine g_aload_n X dX8_readText_43 0 rfl rfl ?_
  refine g_get X dX8_readText_44 ck_X8 0 0 12 rfl rfl (Nat.le_of_ble_eq_true rfl) lkf_X8_106 rfl ?_
  refine g_aload_n X dX8_readText_47 0 rfl rfl ?_
  refine g_get X dX8_readText_48 ck_X8 0 0 2 rfl rfl (Nat.le_of_ble_eq_true rfl) lkf_X8_99 rfl ?_
  refine g_icmp_ge X 67 dX8_readText_51 (by decide) (fun c1147 => ?_) (fun c1147 => ?_)
  · have hf := opos c1147 hf
    refine g_sub [] (lv' := []) rfl ?_
    exact K3 (z.1, z.2) (Option.some.inj hf).symm
  · have hf := oneg c1147 hf
    refine g_aload_n X dX8_readText_54 0 rfl rfl ?_
    refine g_aload_n X dX8_readText_55 1 rfl rfl ?_
    obtain ⟨q1145, hq1145, hf⟩ := obind hf
    refine g_callV (gs' := [MO h0 h1 h2 h3 h4 h5 h6 h7 h8 q1145.2.1, AI cy 120 h1 v1, AI cy 107 g0 q1145.2.2]) (rest := []) X dX8_readText_56 (c_X8_readCommand l D cy ad h0 h1 h2 h3 h4 h5 h6 h7 h8 g0 z.1 v1 z.2 hq1145) mf_X8_readCommand mv_X8_readCommand lkm_X8_148 ⟨(Nat.le_of_ble_eq_true rfl), (Nat.le_of_ble_eq_true rfl), (Nat.le_of_ble_eq_true rfl), (Nat.le_of_ble_eq_true rfl)⟩ 0 0 rfl rfl rfl rfl [0, 1, 2] _ (by decide : [0, 1, 2].Perm (List.range 3)) rfl (by decide : [0, 1, 2].Perm (List.range 3)) rfl (Nat.le_of_ble_eq_true rfl) rfl ?_
    refine g_if_ne X 43 dX8_readText_59 (by decide) (fun c1146 => ?_) (fun c1146 => ?_)
    · have hf := oneg c1146 hf
      exact K1 (q1145.2.1, q1145.2.2) (Option.some.inj hf).symm
    · have hf := opos c1146 hf
      refine g_sub [0] (lv' := [(0, .ref h0)]) rfl ?_
      exact K2 (q1145.2.1, q1145.2.2) (Option.some.inj hf).symm
set_option maxRecDepth 100000 in
set_option maxHeartbeats 4000000 in
theorem w_X8_readText_B43 {p : Program} {l : Launch} {e : Env} {s : State} {m : MethodId} {args : Array Value} {below : List Frame} {meth : Method} {c : Code} {A : Nat → Prop} {D : va_G} {cy : Nat → ClassId} {ad : (Nat → Nat) × (Nat → Nat)} {Q : State → Prop} (X : gK p s m args meth c A D cy ad cX8_readText 2 RX8) (hr : meth.sig.returnType = (some .int)) {h0 h1 h2 h3 h4 h5 h6 h7 h8 g0 : Nat} (v1 : Fn) {n : Nat} {z : MOv × Fn} {q : (MOv × Fn) ⊕ (MOv × Fn)} (hf : itl (f_X8_readText_B43 v1) n z = some q) (K2 : ∀ e' : MOv × Fn, q = .inl e' → GW p l e rmX8_readText s m args below meth c A D 2 0 0 Q 62 [(0, .ref h0)] [] [MO h0 h1 h2 h3 h4 h5 h6 h7 h8 (e'.1.1, e'.1.2.1, e'.1.2.2.1, e'.1.2.2.2.1, e'.1.2.2.2.2.1, e'.1.2.2.2.2.2), AI cy 120 h1 v1, AI cy 107 g0 e'.2]) (K3 : ∀ e' : MOv × Fn, q = .inr e' → GW p l e rmX8_readText s m args below meth c A D 2 0 0 Q 67 [] [] [MO h0 h1 h2 h3 h4 h5 h6 h7 h8 (e'.1.1, e'.1.2.1, e'.1.2.2.1, e'.1.2.2.2.1, e'.1.2.2.2.2.1, e'.1.2.2.2.2.2), AI cy 120 h1 v1, AI cy 107 g0 e'.2]) : GW p l e rmX8_readText s m args below meth c A D 2 0 0 Q 43 [(0, .ref h0), (1, .ref g0)] [] [MO h0 h1 h2 h3 h4 h5 h6 h7 h8 z.1, AI cy 120 h1 v1, AI cy 107 g0 z.2] :=
  itl_ind (f := f_X8_readText_B43 v1) (I := fun z => GW p l e rmX8_readText s m args below meth c A D 2 0 0 Q 43 [(0, .ref h0), (1, .ref g0)] [] [MO h0 h1 h2 h3 h4 h5 h6 h7 h8 z.1, AI cy 120 h1 v1, AI cy 107 g0 z.2]) (J := (fun q => (∀ e' : MOv × Fn, q = .inl e' → GW p l e rmX8_readText s m args below meth c A D 2 0 0 Q 62 [(0, .ref h0)] [] [MO h0 h1 h2 h3 h4 h5 h6 h7 h8 (e'.1.1, e'.1.2.1, e'.1.2.2.1, e'.1.2.2.2.1, e'.1.2.2.2.2.1, e'.1.2.2.2.2.2), AI cy 120 h1 v1, AI cy 107 g0 e'.2]) ∧ (∀ e' : MOv × Fn, q = .inr e' → GW p l e rmX8_readText s m args below meth c A D 2 0 0 Q 67 [] [] [MO h0 h1 h2 h3 h4 h5 h6 h7 h8 (e'.1.1, e'.1.2.1, e'.1.2.2.1, e'.1.2.2.2.1, e'.1.2.2.2.2.1, e'.1.2.2.2.2.2), AI cy 120 h1 v1, AI cy 107 g0 e'.2]))) (fun z x h k1 k2 => b_X8_readText_B43 X hr v1 z h (fun s' hs => k1 s' hs) (fun e' he => (k2 _ he).1 e' rfl) (fun e' he => (k2 _ he).2 e' rfl)) n z q hf ⟨K2, K3⟩
def f_X8_readText (v0 : MOv) (v1 : Fn) (w0 : Fn) : Option (Int32 × MOv × Fn) :=
  (f_X8_clear w0).bind (fun q1142 => (f_X8_sign (v0.1, v0.2.1, v0.2.2.1, v0.2.2.2.1, (0 : Int32), (0 : Int32)) v1).bind (fun q1143 => if q1143 = (80 : Int32) then (f_X8_readCase (v0.1, v0.2.1, v0.2.2.1, v0.2.2.2.1, (1 : Int32), (0 : Int32)) v1 q1142).bind (fun q1144 => if (b2i q1144.1) = 0 then some (q1144.2.1.2.2.2.2.1, q1144.2.1, q1144.2.2) else (itl (f_X8_readText_B43 v1) FU (q1144.2.1, q1144.2.2)).bind (Sum.elim (fun q1148e => some (q1148e.1.2.2.2.2.1, q1148e.1, q1148e.2)) (fun q1148e => some ((-1 : Int32), q1148e.1, q1148e.2)))) else some ((0 : Int32), (v0.1, v0.2.1, v0.2.2.1, v0.2.2.2.1, (0 : Int32), (0 : Int32)), q1142)))
set_option maxRecDepth 100000 in
set_option maxHeartbeats 4000000 in
theorem c_X8_readText (l : Launch) (D : va_G) (cy : Nat → ClassId) (ad : (Nat → Nat) × (Nat → Nat)) (h0 : Nat) (h1 : Nat) (h2 : Nat) (h3 : Nat) (h4 : Nat) (h5 : Nat) (h6 : Nat) (h7 : Nat) (h8 : Nat) (g0 : Nat) (v0 : MOv) (v1 : Fn) (w0 : Fn) {q : Int32 × MOv × Fn} (hf : f_X8_readText v0 v1 w0 = some q) : CM l yX8_readText cX8_readText 2 (some .int) rmX8_readText D cy ad [.ref h0, .ref g0] [MO h0 h1 h2 h3 h4 h5 h6 h7 h8 v0, AI cy 120 h1 v1, AI cy 107 g0 w0] (some (.int q.1)) [MO h0 h1 h2 h3 h4 h5 h6 h7 h8 q.2.1, AI cy 120 h1 v1, AI cy 107 g0 q.2.2] := by
  refine cm_of (lv0 := [(0, .ref h0), (1, .ref g0)]) (by decide) (Nat.le_of_ble_eq_true rfl) rfl ?_
  intro p e s m args below meth c A X hr hn
  have X : gK p s m args meth c A D cy ad cX8_readText 2 RX8 := X
  unfold f_X8_readText at hf
  refine g_aload_n X dX8_readText_0 1 rfl rfl ?_
  obtain ⟨q1142, hq1142, hf⟩ := obind hf
  refine g_callS (gs' := [MO h0 h1 h2 h3 h4 h5 h6 h7 h8 v0, AI cy 120 h1 v1, AI cy 107 g0 q1142]) (rest := []) X dX8_readText_1 (c_X8_clear l D cy ad g0 w0 hq1142) mf_X8_clear ms_X8_clear lkm_X8_35 ⟨(Nat.le_of_ble_eq_true rfl), (Nat.le_of_ble_eq_true rfl), (Nat.le_of_ble_eq_true rfl), (Nat.le_of_ble_eq_true rfl)⟩ [2, 0, 1] _ (by decide : [2, 0, 1].Perm (List.range 3)) rfl (by decide : [2, 0, 1].Perm (List.range 3)) rfl (Nat.le_of_ble_eq_true rfl) rfl ?_
  refine g_aload_n X dX8_readText_4 0 rfl rfl ?_
  refine g_iconst X (0 : Int32) dX8_readText_5 (by decide) ?_
  refine g_put (gs' := [MO h0 h1 h2 h3 h4 h5 h6 h7 h8 (v0.1, v0.2.1, v0.2.2.1, v0.2.2.2.1, v0.2.2.2.2.1, (0 : Int32)), AI cy 120 h1 v1, AI cy 107 g0 q1142]) X dX8_readText_6 ck_X8 ct_X8 0 0 13 rfl rfl (Nat.le_of_ble_eq_true rfl) lkf_X8_117 rfl rfl rfl (Nat.le_of_ble_eq_true rfl) rfl ?_
  refine g_aload_n X dX8_readText_9 0 rfl rfl ?_
  refine g_iconst X (0 : Int32) dX8_readText_10 (by decide) ?_
  refine g_put (gs' := [MO h0 h1 h2 h3 h4 h5 h6 h7 h8 (v0.1, v0.2.1, v0.2.2.1, v0.2.2.2.1, (0 : Int32), (0 : Int32)), AI cy 120 h1 v1, AI cy 107 g0 q1142]) X dX8_readText_11 ck_X8 ct_X8 0 0 12 rfl rfl (Nat.le_of_ble_eq_true rfl) lkf_X8_106 rfl rfl rfl (Nat.le_of_ble_eq_true rfl) rfl ?_
  refine g_aload_n X dX8_readText_14 0 rfl rfl ?_
  obtain ⟨q1143, hq1143, hf⟩ := obind hf
  refine g_callV (gs' := [MO h0 h1 h2 h3 h4 h5 h6 h7 h8 (v0.1, v0.2.1, v0.2.2.1, v0.2.2.2.1, (0 : Int32), (0 : Int32)), AI cy 120 h1 v1, AI cy 107 g0 q1142]) (rest := []) X dX8_readText_15 (c_X8_sign l D cy ad h0 h1 h2 h3 h4 h5 h6 h7 h8 (v0.1, v0.2.1, v0.2.2.1, v0.2.2.2.1, (0 : Int32), (0 : Int32)) v1 hq1143) mf_X8_sign mv_X8_sign lkm_X8_109 ⟨(Nat.le_of_ble_eq_true rfl), (Nat.le_of_ble_eq_true rfl), (Nat.le_of_ble_eq_true rfl), (Nat.le_of_ble_eq_true rfl)⟩ 0 0 rfl rfl rfl rfl [0, 1, 2] _ (by decide : [0, 1, 2].Perm (List.range 3)) rfl (by decide : [0, 1, 2].Perm (List.range 3)) rfl (Nat.le_of_ble_eq_true rfl) rfl ?_
  refine g_bipush X (80 : Int32) dX8_readText_18 (by decide) ?_
  refine g_icmp_eq X 25 dX8_readText_20 (by decide) (fun c1150 => ?_) (fun c1150 => ?_)
  · have hf := opos c1150 hf
    refine g_aload_n X dX8_readText_25 0 rfl rfl ?_
    refine g_iconst X (1 : Int32) dX8_readText_26 (by decide) ?_
    refine g_put (gs' := [MO h0 h1 h2 h3 h4 h5 h6 h7 h8 (v0.1, v0.2.1, v0.2.2.1, v0.2.2.2.1, (1 : Int32), (0 : Int32)), AI cy 120 h1 v1, AI cy 107 g0 q1142]) X dX8_readText_27 ck_X8 ct_X8 0 0 12 rfl rfl (Nat.le_of_ble_eq_true rfl) lkf_X8_106 rfl rfl rfl (Nat.le_of_ble_eq_true rfl) rfl ?_
    refine g_aload_n X dX8_readText_30 0 rfl rfl ?_
    refine g_aload_n X dX8_readText_31 1 rfl rfl ?_
    obtain ⟨q1144, hq1144, hf⟩ := obind hf
    refine g_callV (gs' := [MO h0 h1 h2 h3 h4 h5 h6 h7 h8 q1144.2.1, AI cy 120 h1 v1, AI cy 107 g0 q1144.2.2]) (rest := []) X dX8_readText_32 (c_X8_readCase l D cy ad h0 h1 h2 h3 h4 h5 h6 h7 h8 g0 (v0.1, v0.2.1, v0.2.2.1, v0.2.2.2.1, (1 : Int32), (0 : Int32)) v1 q1142 hq1144) mf_X8_readCase mv_X8_readCase lkm_X8_144 ⟨(Nat.le_of_ble_eq_true rfl), (Nat.le_of_ble_eq_true rfl), (Nat.le_of_ble_eq_true rfl), (Nat.le_of_ble_eq_true rfl)⟩ 0 0 rfl rfl rfl rfl [0, 1, 2] _ (by decide : [0, 1, 2].Perm (List.range 3)) rfl (by decide : [0, 1, 2].Perm (List.range 3)) rfl (Nat.le_of_ble_eq_true rfl) rfl ?_
    refine g_if_ne X 43 dX8_readText_35 (by decide) (fun c1149 => ?_) (fun c1149 => ?_)
    · have hf := oneg c1149 hf
      obtain ⟨q1148, hq1148, hf⟩ := obind hf
      refine w_X8_readText_B43 X hr v1 hq1148 (fun q1148e hq1148e => ?_) (fun q1148e hq1148e => ?_)
      · subst hq1148e
        have hf := sinl hf
        refine g_aload_n X dX8_readText_62 0 rfl rfl ?_
        refine g_get X dX8_readText_63 ck_X8 0 0 12 rfl rfl (Nat.le_of_ble_eq_true rfl) lkf_X8_106 rfl ?_
        have hf := Option.some.inj hf
        subst hf
        exact g_iret X hr dX8_readText_66
      · subst hq1148e
        have hf := sinr hf
        refine g_iconst X (-1 : Int32) dX8_readText_67 (by decide) ?_
        have hf := Option.some.inj hf
        subst hf
        exact g_iret X hr dX8_readText_68
    · have hf := opos c1149 hf
      refine g_aload_n X dX8_readText_38 0 rfl rfl ?_
      refine g_get X dX8_readText_39 ck_X8 0 0 12 rfl rfl (Nat.le_of_ble_eq_true rfl) lkf_X8_106 rfl ?_
      have hf := Option.some.inj hf
      subst hf
      exact g_iret X hr dX8_readText_42
  · have hf := oneg c1150 hf
    refine g_iconst X (0 : Int32) dX8_readText_23 (by decide) ?_
    have hf := Option.some.inj hf
    subst hf
    exact g_iret X hr dX8_readText_24
abbrev rmX8_errorPosition : Room := ({ frames := 6, cells := 0, slots := 0, locals := 137 } : Room)
def f_X8_errorPosition (v0 : MOv) (v1 : Fn) (v3 : Fn) : Option (Int32 × MOv × Fn) :=
  (f_X8_readText ((0 : Int32), v0.2.1, v0.2.2.1, v0.2.2.2.1, v0.2.2.2.2.1, v0.2.2.2.2.2) v1 v3).bind (fun q1153 => some (q1153.1, q1153.2.1, q1153.2.2))
set_option maxRecDepth 100000 in
set_option maxHeartbeats 4000000 in
theorem c_X8_errorPosition (l : Launch) (D : va_G) (cy : Nat → ClassId) (ad : (Nat → Nat) × (Nat → Nat)) (h0 : Nat) (h1 : Nat) (h2 : Nat) (h3 : Nat) (h4 : Nat) (h5 : Nat) (h6 : Nat) (h7 : Nat) (h8 : Nat) (v0 : MOv) (v1 : Fn) (v3 : Fn) {q : Int32 × MOv × Fn} (hf : f_X8_errorPosition v0 v1 v3 = some q) : CM l yX8_errorPosition cX8_errorPosition 1 (some .int) rmX8_errorPosition D cy ad [.ref h0] [MO h0 h1 h2 h3 h4 h5 h6 h7 h8 v0, AI cy 120 h1 v1, AI cy 107 h3 v3] (some (.int q.1)) [MO h0 h1 h2 h3 h4 h5 h6 h7 h8 q.2.1, AI cy 120 h1 v1, AI cy 107 h3 q.2.2] := by
  refine cm_of (lv0 := [(0, .ref h0)]) (by decide) (Nat.le_of_ble_eq_true rfl) rfl ?_
  intro p e s m args below meth c A X hr hn
  have X : gK p s m args meth c A D cy ad cX8_errorPosition 1 RX8 := X
  unfold f_X8_errorPosition at hf
  refine g_aload_n X dX8_errorPosition_0 0 rfl rfl ?_
  refine g_iconst X (0 : Int32) dX8_errorPosition_1 (by decide) ?_
  refine g_put (gs' := [MO h0 h1 h2 h3 h4 h5 h6 h7 h8 ((0 : Int32), v0.2.1, v0.2.2.1, v0.2.2.2.1, v0.2.2.2.2.1, v0.2.2.2.2.2), AI cy 120 h1 v1, AI cy 107 h3 v3]) X dX8_errorPosition_2 ck_X8 ct_X8 0 0 0 rfl rfl (Nat.le_of_ble_eq_true rfl) lkf_X8_39 rfl rfl rfl (Nat.le_of_ble_eq_true rfl) rfl ?_
  refine g_aload_n X dX8_errorPosition_5 0 rfl rfl ?_
  refine g_aload_n X dX8_errorPosition_6 0 rfl rfl ?_
  refine g_get X dX8_errorPosition_7 ck_X8 0 0 4 rfl rfl (Nat.le_of_ble_eq_true rfl) lkf_X8_16 rfl ?_
  obtain ⟨q1153, hq1153, hf⟩ := obind hf
  refine g_callV (gs' := [MO h0 h1 h2 h3 h4 h5 h6 h7 h8 q1153.2.1, AI cy 120 h1 v1, AI cy 107 h3 q1153.2.2]) (rest := []) X dX8_errorPosition_10 (c_X8_readText l D cy ad h0 h1 h2 h3 h4 h5 h6 h7 h8 h3 ((0 : Int32), v0.2.1, v0.2.2.1, v0.2.2.2.1, v0.2.2.2.2.1, v0.2.2.2.2.2) v1 v3 hq1153) mf_X8_readText mv_X8_readText lkm_X8_151 ⟨(Nat.le_of_ble_eq_true rfl), (Nat.le_of_ble_eq_true rfl), (Nat.le_of_ble_eq_true rfl), (Nat.le_of_ble_eq_true rfl)⟩ 0 0 rfl rfl rfl rfl [0, 1, 2] _ (by decide : [0, 1, 2].Perm (List.range 3)) rfl (by decide : [0, 1, 2].Perm (List.range 3)) rfl (Nat.le_of_ble_eq_true rfl) rfl ?_
  have hf := Option.some.inj hf
  subst hf
  exact g_iret X hr dX8_errorPosition_13
abbrev rmX8_load : Room := ({ frames := 6, cells := 0, slots := 0, locals := 137 } : Room)
def f_X8_load_b18 (v0 : MOv) (v1 : Fn) (v2 : Fn) (v3 : Fn) (v6 : Fn) (y0 : Bool) : Option (Int32 × MOv × Fn × Fn × Fn) :=
  (f_X8_refused v0 (b2i y0)).bind (fun q1161 => if (b2i q1161.1) = 0 then (f_X8_copyState 107 107 v3 v2 (0 : Int32) (0 : Int32)).bind (fun q1162 => some (q1161.2.2.2.2.2.2, (q1161.2.1, q1161.2.2.1, (0 : Int32), q1161.2.2.2.2.1, q1161.2.2.2.2.2.1, q1161.2.2.2.2.2.2), q1162, v3, (upd (upd v6 (0 : Int32).toNatClampNeg (vp_nar .boolean (0 : Int32))) (1 : Int32).toNatClampNeg (vp_nar .boolean (0 : Int32))))) else some ((0 : Int32), q1161.2, v2, v3, v6))
set_option maxRecDepth 100000 in
set_option maxHeartbeats 4000000 in
theorem j_X8_load_b18 {p : Program} {l : Launch} {e : Env} {s : State} {m : MethodId} {args : Array Value} {below : List Frame} {meth : Method} {c : Code} {A : Nat → Prop} {D : va_G} {cy : Nat → ClassId} {ad : (Nat → Nat) × (Nat → Nat)} (X : gK p s m args meth c A D cy ad cX8_load 1 RX8) (hr : meth.sig.returnType = (some .int)) {h0 h1 h2 h3 h4 h5 h6 h7 h8 : Nat} (v0 : MOv) (v1 : Fn) (v2 : Fn) (v3 : Fn) (v6 : Fn) (y0 : Bool) {q : Int32 × MOv × Fn × Fn × Fn} (hf : f_X8_load_b18 v0 v1 v2 v3 v6 y0 = some q) : GW p l e rmX8_load s m args below meth c A D 1 0 0 (MQ below (cmQ D cy A (some (.int q.1)) ([MO h0 h1 h2 h3 h4 h5 h6 h7 h8 q.2.1, AI cy 120 h1 v1, AI cy 107 h2 q.2.2.1, AI cy 107 h3 q.2.2.2.1, AZ cy 2 h6 q.2.2.2.2] : List va_W).flatten) args s 0 0 A) 18 [(0, .ref h0)] [.int (b2i y0), .ref h0] [MO h0 h1 h2 h3 h4 h5 h6 h7 h8 v0, AI cy 120 h1 v1, AI cy 107 h2 v2, AI cy 107 h3 v3, AZ cy 2 h6 v6] := by
  unfold f_X8_load_b18 at hf
  obtain ⟨q1161, hq1161, hf⟩ := obind hf
  refine g_callV (gs' := [MO h0 h1 h2 h3 h4 h5 h6 h7 h8 q1161.2, AI cy 120 h1 v1, AI cy 107 h2 v2, AI cy 107 h3 v3, AZ cy 2 h6 v6]) (rest := []) X dX8_load_18 (c_X8_refused l D cy ad h0 h1 h2 h3 h4 h5 h6 h7 h8 v0 (b2i y0) hq1161) mf_X8_refused mv_X8_refused lkm_X8_102 ⟨(Nat.le_of_ble_eq_true rfl), (Nat.le_of_ble_eq_true rfl), (Nat.le_of_ble_eq_true rfl), (Nat.le_of_ble_eq_true rfl)⟩ 0 0 rfl rfl rfl rfl [0, 1, 2, 3, 4] _ (by decide : [0, 1, 2, 3, 4].Perm (List.range 5)) rfl (by decide : [0, 1, 2, 3, 4].Perm (List.range 5)) rfl (Nat.le_of_ble_eq_true rfl) rfl ?_
  refine g_if_eq X 26 dX8_load_21 (by decide) (fun c1163 => ?_) (fun c1163 => ?_)
  · have hf := opos c1163 hf
    refine g_aload_n X dX8_load_26 0 rfl rfl ?_
    refine g_get X dX8_load_27 ck_X8 0 0 4 rfl rfl (Nat.le_of_ble_eq_true rfl) lkf_X8_16 rfl ?_
    refine g_iconst X (0 : Int32) dX8_load_30 (by decide) ?_
    refine g_aload_n X dX8_load_31 0 rfl rfl ?_
    refine g_get X dX8_load_32 ck_X8 0 0 3 rfl rfl (Nat.le_of_ble_eq_true rfl) lkf_X8_13 rfl ?_
    refine g_iconst X (0 : Int32) dX8_load_35 (by decide) ?_
    obtain ⟨q1162, hq1162, hf⟩ := obind hf
    refine g_callS (gs' := [MO h0 h1 h2 h3 h4 h5 h6 h7 h8 q1161.2, AI cy 120 h1 v1, AI cy 107 h2 q1162, AI cy 107 h3 v3, AZ cy 2 h6 v6]) (rest := []) X dX8_load_36 (c_X8_copyState l D cy ad h3 h2 107 107 v3 v2 (0 : Int32) (0 : Int32) hq1162) mf_X8_copyState ms_X8_copyState lkm_X8_154 ⟨(Nat.le_of_ble_eq_true rfl), (Nat.le_of_ble_eq_true rfl), (Nat.le_of_ble_eq_true rfl), (Nat.le_of_ble_eq_true rfl)⟩ [3, 2, 0, 1, 4] _ (by decide : [3, 2, 0, 1, 4].Perm (List.range 5)) rfl (by decide : [3, 2, 0, 1, 4].Perm (List.range 5)) rfl (Nat.le_of_ble_eq_true rfl) rfl ?_
    refine g_aload_n X dX8_load_39 0 rfl rfl ?_
    refine g_iconst X (0 : Int32) dX8_load_40 (by decide) ?_
    refine g_put (gs' := [MO h0 h1 h2 h3 h4 h5 h6 h7 h8 (q1161.2.1, q1161.2.2.1, (0 : Int32), q1161.2.2.2.2.1, q1161.2.2.2.2.2.1, q1161.2.2.2.2.2.2), AI cy 120 h1 v1, AI cy 107 h2 q1162, AI cy 107 h3 v3, AZ cy 2 h6 v6]) X dX8_load_41 ck_X8 ct_X8 0 0 6 rfl rfl (Nat.le_of_ble_eq_true rfl) lkf_X8_158 rfl rfl rfl (Nat.le_of_ble_eq_true rfl) rfl ?_
    refine g_aload_n X dX8_load_44 0 rfl rfl ?_
    refine g_get X dX8_load_45 ck_X8 0 0 8 rfl rfl (Nat.le_of_ble_eq_true rfl) lkf_X8_25 rfl ?_
    refine g_iconst X (0 : Int32) dX8_load_48 (by decide) ?_
    refine g_iconst X (0 : Int32) dX8_load_49 (by decide) ?_
    refine g_bastore (gs' := [MO h0 h1 h2 h3 h4 h5 h6 h7 h8 (q1161.2.1, q1161.2.2.1, (0 : Int32), q1161.2.2.2.2.1, q1161.2.2.2.2.2.1, q1161.2.2.2.2.2.2), AI cy 120 h1 v1, AI cy 107 h2 q1162, AI cy 107 h3 v3, AZ cy 2 h6 (upd v6 (0 : Int32).toNatClampNeg (vp_nar .boolean (0 : Int32)))]) X dX8_load_50 4 0 rfl rfl (by decide) rfl ?_
    refine g_aload_n X dX8_load_51 0 rfl rfl ?_
    refine g_get X dX8_load_52 ck_X8 0 0 8 rfl rfl (Nat.le_of_ble_eq_true rfl) lkf_X8_25 rfl ?_
    refine g_iconst X (1 : Int32) dX8_load_55 (by decide) ?_
    refine g_iconst X (0 : Int32) dX8_load_56 (by decide) ?_
    refine g_bastore (gs' := [MO h0 h1 h2 h3 h4 h5 h6 h7 h8 (q1161.2.1, q1161.2.2.1, (0 : Int32), q1161.2.2.2.2.1, q1161.2.2.2.2.2.1, q1161.2.2.2.2.2.2), AI cy 120 h1 v1, AI cy 107 h2 q1162, AI cy 107 h3 v3, AZ cy 2 h6 (upd (upd v6 (0 : Int32).toNatClampNeg (vp_nar .boolean (0 : Int32))) (1 : Int32).toNatClampNeg (vp_nar .boolean (0 : Int32)))]) X dX8_load_57 4 0 rfl rfl (by decide) rfl ?_
    refine g_aload_n X dX8_load_58 0 rfl rfl ?_
    refine g_get X dX8_load_59 ck_X8 0 0 13 rfl rfl (Nat.le_of_ble_eq_true rfl) lkf_X8_117 rfl ?_
    have hf := Option.some.inj hf
    subst hf
    exact g_iret X hr dX8_load_62
  · have hf := oneg c1163 hf
    refine g_iconst X (0 : Int32) dX8_load_24 (by decide) ?_
    have hf := Option.some.inj hf
    subst hf
    exact g_iret X hr dX8_load_25
def f_X8_load (v0 : MOv) (v1 : Fn) (v2 : Fn) (v3 : Fn) (v6 : Fn) : Option (Int32 × MOv × Fn × Fn × Fn) :=
  (f_X8_readText v0 v1 v3).bind (fun q1160 => if q1160.1 = (-1 : Int32) then f_X8_load_b18 q1160.2.1 v1 v2 q1160.2.2 v6 false else f_X8_load_b18 q1160.2.1 v1 v2 q1160.2.2 v6 true)
set_option maxRecDepth 100000 in
set_option maxHeartbeats 4000000 in
theorem c_X8_load (l : Launch) (D : va_G) (cy : Nat → ClassId) (ad : (Nat → Nat) × (Nat → Nat)) (h0 : Nat) (h1 : Nat) (h2 : Nat) (h3 : Nat) (h4 : Nat) (h5 : Nat) (h6 : Nat) (h7 : Nat) (h8 : Nat) (v0 : MOv) (v1 : Fn) (v2 : Fn) (v3 : Fn) (v6 : Fn) {q : Int32 × MOv × Fn × Fn × Fn} (hf : f_X8_load v0 v1 v2 v3 v6 = some q) : CM l yX8_load cX8_load 1 (some .int) rmX8_load D cy ad [.ref h0] [MO h0 h1 h2 h3 h4 h5 h6 h7 h8 v0, AI cy 120 h1 v1, AI cy 107 h2 v2, AI cy 107 h3 v3, AZ cy 2 h6 v6] (some (.int q.1)) [MO h0 h1 h2 h3 h4 h5 h6 h7 h8 q.2.1, AI cy 120 h1 v1, AI cy 107 h2 q.2.2.1, AI cy 107 h3 q.2.2.2.1, AZ cy 2 h6 q.2.2.2.2] := by
  refine cm_of (lv0 := [(0, .ref h0)]) (by decide) (Nat.le_of_ble_eq_true rfl) rfl ?_
  intro p e s m args below meth c A X hr hn
  have X : gK p s m args meth c A D cy ad cX8_load 1 RX8 := X
  unfold f_X8_load at hf
  refine g_aload_n X dX8_load_0 0 rfl rfl ?_
  refine g_aload_n X dX8_load_1 0 rfl rfl ?_
  refine g_aload_n X dX8_load_2 0 rfl rfl ?_
  refine g_get X dX8_load_3 ck_X8 0 0 4 rfl rfl (Nat.le_of_ble_eq_true rfl) lkf_X8_16 rfl ?_
  obtain ⟨q1160, hq1160, hf⟩ := obind hf
  refine g_callV (gs' := [MO h0 h1 h2 h3 h4 h5 h6 h7 h8 q1160.2.1, AI cy 120 h1 v1, AI cy 107 h2 v2, AI cy 107 h3 q1160.2.2, AZ cy 2 h6 v6]) (rest := [.ref h0]) X dX8_load_6 (c_X8_readText l D cy ad h0 h1 h2 h3 h4 h5 h6 h7 h8 h3 v0 v1 v3 hq1160) mf_X8_readText mv_X8_readText lkm_X8_151 ⟨(Nat.le_of_ble_eq_true rfl), (Nat.le_of_ble_eq_true rfl), (Nat.le_of_ble_eq_true rfl), (Nat.le_of_ble_eq_true rfl)⟩ 0 0 rfl rfl rfl rfl [0, 1, 3, 2, 4] _ (by decide : [0, 1, 3, 2, 4].Perm (List.range 5)) rfl (by decide : [0, 1, 3, 2, 4].Perm (List.range 5)) rfl (Nat.le_of_ble_eq_true rfl) rfl ?_
  refine g_iconst X (-1 : Int32) dX8_load_9 (by decide) ?_
  refine g_icmp_ne X 17 dX8_load_10 (by decide) (fun c1164 => ?_) (fun c1164 => ?_)
  · have hf := oneg c1164 hf
    refine g_iconst X (1 : Int32) dX8_load_17 (by decide) ?_
    exact j_X8_load_b18 X hr q1160.2.1 v1 v2 q1160.2.2 v6 true hf
  · have hf := opos c1164 hf
    refine g_iconst X (0 : Int32) dX8_load_13 (by decide) ?_
    refine g_goto X 18 dX8_load_14 (by decide) ?_
    exact j_X8_load_b18 X hr q1160.2.1 v1 v2 q1160.2.2 v6 false hf
abbrev rmX8_about : Room := ({ frames := 6, cells := 0, slots := 0, locals := 137 } : Room)
def f_X8_about_B113_b150 (v0 : MOv) (v2 : Fn) (x3 : Int32) (y0 : Bool) (y1 : Int32) : Option ((Int32 × Int32) ⊕ ((Int32))) :=
  some (.inl ((y1 + (b2i y0)), (x3 + (1 : Int32))))
set_option maxRecDepth 100000 in
set_option maxHeartbeats 4000000 in
theorem j_X8_about_B113_b150 {p : Program} {l : Launch} {e : Env} {s : State} {m : MethodId} {args : Array Value} {below : List Frame} {meth : Method} {c : Code} {A : Nat → Prop} {D : va_G} {cy : Nat → ClassId} {ad : (Nat → Nat) × (Nat → Nat)} {Q : State → Prop} (X : gK p s m args meth c A D cy ad cX8_about 4 RX8) (hr : meth.sig.returnType = (some .int)) {h0 h1 h2 h3 h4 h5 h6 h7 h8 : Nat} (v0 : MOv) (v2 : Fn) (x3 : Int32) (y0 : Bool) (y1 : Int32) {q : (Int32 × Int32) ⊕ ((Int32))} (hf : f_X8_about_B113_b150 v0 v2 x3 y0 y1 = some q) (K1 : ∀ s' : Int32 × Int32, q = .inl s' → GW p l e rmX8_about s m args below meth c A D 4 0 0 Q 113 [(0, .ref h0), (2, .int s'.1), (3, .int s'.2)] [] [MO h0 h1 h2 h3 h4 h5 h6 h7 h8 v0, AI cy 107 h2 v2]) (K2 : ∀ e' : Int32, q = .inr (e') → GW p l e rmX8_about s m args below meth c A D 4 0 0 Q 158 [(2, .int e')] [] [MO h0 h1 h2 h3 h4 h5 h6 h7 h8 v0, AI cy 107 h2 v2]) : GW p l e rmX8_about s m args below meth c A D 4 0 0 Q 150 [(0, .ref h0), (3, .int x3)] [.int (b2i y0), .int y1] [MO h0 h1 h2 h3 h4 h5 h6 h7 h8 v0, AI cy 107 h2 v2] := by
  unfold f_X8_about_B113_b150 at hf
  refine g_iadd X dX8_about_150 ?_
  refine g_istore_n (lv' := [(0, .ref h0), (2, .int (y1 + (b2i y0))), (3, .int x3)]) X dX8_about_151 [1, 0, 2] rfl (Nat.le_of_ble_eq_true rfl) rfl ?_
  refine g_iinc (lv' := [(0, .ref h0), (2, .int (y1 + (b2i y0))), (3, .int (x3 + (1 : Int32)))]) (v := (1 : Int32)) X dX8_about_152 2 rfl (by decide) [1, 2, 0] (Nat.le_of_ble_eq_true rfl) rfl ?_
  refine g_goto X 113 dX8_about_155 (by decide) ?_
  exact K1 ((y1 + (b2i y0)), (x3 + (1 : Int32))) (Option.some.inj hf).symm
def f_X8_about_B113 (v0 : MOv) (v2 : Fn) (z : Int32 × Int32) : Option ((Int32 × Int32) ⊕ ((Int32))) :=
  if (v2 (4 : Int32).toNatClampNeg) ≤ z.2 then some (.inr ((z.1))) else (f_X8_many v2 z.2).bind (fun q1191 => (f_X8_many v2 (z.2 + (1 : Int32))).bind (fun q1192 => if q1191 = q1192 then f_X8_about_B113_b150 v0 v2 z.2 true z.1 else f_X8_about_B113_b150 v0 v2 z.2 false z.1))
set_option maxRecDepth 100000 in
set_option maxHeartbeats 4000000 in
theorem b_X8_about_B113 {p : Program} {l : Launch} {e : Env} {s : State} {m : MethodId} {args : Array Value} {below : List Frame} {meth : Method} {c : Code} {A : Nat → Prop} {D : va_G} {cy : Nat → ClassId} {ad : (Nat → Nat) × (Nat → Nat)} {Q : State → Prop} (X : gK p s m args meth c A D cy ad cX8_about 4 RX8) (hr : meth.sig.returnType = (some .int)) {h0 h1 h2 h3 h4 h5 h6 h7 h8 : Nat} (v0 : MOv) (v2 : Fn) (z : Int32 × Int32) {q : (Int32 × Int32) ⊕ ((Int32))} (hf : f_X8_about_B113 v0 v2 z = some q) (K1 : ∀ s' : Int32 × Int32, q = .inl s' → GW p l e rmX8_about s m args below meth c A D 4 0 0 Q 113 [(0, .ref h0), (2, .int s'.1), (3, .int s'.2)] [] [MO h0 h1 h2 h3 h4 h5 h6 h7 h8 v0, AI cy 107 h2 v2]) (K2 : ∀ e' : Int32, q = .inr (e') → GW p l e rmX8_about s m args below meth c A D 4 0 0 Q 158 [(2, .int e')] [] [MO h0 h1 h2 h3 h4 h5 h6 h7 h8 v0, AI cy 107 h2 v2]) : GW p l e rmX8_about s m args below meth c A D 4 0 0 Q 113 [(0, .ref h0), (2, .int z.1), (3, .int z.2)] [] [MO h0 h1 h2 h3 h4 h5 h6 h7 h8 v0, AI cy 107 h2 v2] := by
  unfold f_X8_about_B113 at hf
  refine g_iload_n X dX8_about_113 2 rfl rfl ?_
  refine g_aload_n X dX8_about_114 0 rfl rfl ?_
  refine g_get X dX8_about_115 ck_X8 0 0 3 rfl rfl (Nat.le_of_ble_eq_true rfl) lkf_X8_13 rfl ?_
  refine g_iconst X (4 : Int32) dX8_about_118 (by decide) ?_
  refine g_iaload X dX8_about_119 1 0 rfl rfl (by decide) ?_
  refine g_icmp_ge X 158 dX8_about_120 (by decide) (fun c1194 => ?_) (fun c1194 => ?_)
  · have hf := opos c1194 hf
    refine g_sub [1] (lv' := [(2, .int z.1)]) rfl ?_
    exact K2 (z.1) (Option.some.inj hf).symm
  · have hf := oneg c1194 hf
    refine g_iload_n X dX8_about_123 1 rfl rfl ?_
    refine g_aload_n X dX8_about_124 0 rfl rfl ?_
    refine g_get X dX8_about_125 ck_X8 0 0 3 rfl rfl (Nat.le_of_ble_eq_true rfl) lkf_X8_13 rfl ?_
    refine g_iload_n X dX8_about_128 2 rfl rfl ?_
    obtain ⟨q1191, hq1191, hf⟩ := obind hf
    refine g_callS (gs' := [MO h0 h1 h2 h3 h4 h5 h6 h7 h8 v0, AI cy 107 h2 v2]) (rest := [.int z.1]) X dX8_about_129 (c_X8_many l D cy ad h2 v2 z.2 hq1191) mf_X8_many ms_X8_many lkm_X8_79 ⟨(Nat.le_of_ble_eq_true rfl), (Nat.le_of_ble_eq_true rfl), (Nat.le_of_ble_eq_true rfl), (Nat.le_of_ble_eq_true rfl)⟩ [1, 0] _ (by decide : [1, 0].Perm (List.range 2)) rfl (by decide : [1, 0].Perm (List.range 2)) rfl (Nat.le_of_ble_eq_true rfl) rfl ?_
    refine g_aload_n X dX8_about_132 0 rfl rfl ?_
    refine g_get X dX8_about_133 ck_X8 0 0 3 rfl rfl (Nat.le_of_ble_eq_true rfl) lkf_X8_13 rfl ?_
    refine g_iload_n X dX8_about_136 2 rfl rfl ?_
    refine g_iconst X (1 : Int32) dX8_about_137 (by decide) ?_
    refine g_iadd X dX8_about_138 ?_
    obtain ⟨q1192, hq1192, hf⟩ := obind hf
    refine g_callS (gs' := [MO h0 h1 h2 h3 h4 h5 h6 h7 h8 v0, AI cy 107 h2 v2]) (rest := [.int q1191, .int z.1]) X dX8_about_139 (c_X8_many l D cy ad h2 v2 (z.2 + (1 : Int32)) hq1192) mf_X8_many ms_X8_many lkm_X8_79 ⟨(Nat.le_of_ble_eq_true rfl), (Nat.le_of_ble_eq_true rfl), (Nat.le_of_ble_eq_true rfl), (Nat.le_of_ble_eq_true rfl)⟩ [1, 0] _ (by decide : [1, 0].Perm (List.range 2)) rfl (by decide : [1, 0].Perm (List.range 2)) rfl (Nat.le_of_ble_eq_true rfl) rfl ?_
    refine g_icmp_ne X 149 dX8_about_142 (by decide) (fun c1193 => ?_) (fun c1193 => ?_)
    · have hf := oneg c1193 hf
      refine g_iconst X (0 : Int32) dX8_about_149 (by decide) ?_
      refine g_sub [0, 2] (lv' := [(0, .ref h0), (3, .int z.2)]) rfl ?_
      exact j_X8_about_B113_b150 X hr v0 v2 z.2 false z.1 hf K1 K2
    · have hf := opos c1193 hf
      refine g_iconst X (1 : Int32) dX8_about_145 (by decide) ?_
      refine g_goto X 150 dX8_about_146 (by decide) ?_
      refine g_sub [0, 2] (lv' := [(0, .ref h0), (3, .int z.2)]) rfl ?_
      exact j_X8_about_B113_b150 X hr v0 v2 z.2 true z.1 hf K1 K2
set_option maxRecDepth 100000 in
set_option maxHeartbeats 4000000 in
theorem w_X8_about_B113 {p : Program} {l : Launch} {e : Env} {s : State} {m : MethodId} {args : Array Value} {below : List Frame} {meth : Method} {c : Code} {A : Nat → Prop} {D : va_G} {cy : Nat → ClassId} {ad : (Nat → Nat) × (Nat → Nat)} {Q : State → Prop} (X : gK p s m args meth c A D cy ad cX8_about 4 RX8) (hr : meth.sig.returnType = (some .int)) {h0 h1 h2 h3 h4 h5 h6 h7 h8 : Nat} (v0 : MOv) (v2 : Fn) {n : Nat} {z : Int32 × Int32} {q : (Int32)} (hf : itl (f_X8_about_B113 v0 v2) n z = some q) (K2 : GW p l e rmX8_about s m args below meth c A D 4 0 0 Q 158 [(2, .int q)] [] [MO h0 h1 h2 h3 h4 h5 h6 h7 h8 v0, AI cy 107 h2 v2]) : GW p l e rmX8_about s m args below meth c A D 4 0 0 Q 113 [(0, .ref h0), (2, .int z.1), (3, .int z.2)] [] [MO h0 h1 h2 h3 h4 h5 h6 h7 h8 v0, AI cy 107 h2 v2] :=
  itl_ind (f := f_X8_about_B113 v0 v2) (I := fun z => GW p l e rmX8_about s m args below meth c A D 4 0 0 Q 113 [(0, .ref h0), (2, .int z.1), (3, .int z.2)] [] [MO h0 h1 h2 h3 h4 h5 h6 h7 h8 v0, AI cy 107 h2 v2]) (J := (fun q => GW p l e rmX8_about s m args below meth c A D 4 0 0 Q 158 [(2, .int q)] [] [MO h0 h1 h2 h3 h4 h5 h6 h7 h8 v0, AI cy 107 h2 v2])) (fun z x h k1 k2 => b_X8_about_B113 X hr v0 v2 z h (fun s' hs => k1 s' hs) (fun e' he => k2 e' he)) n z q hf K2
def f_X8_about_b18 (v0 : MOv) (v2 : Fn) (x1 : Int32) (y0 : Bool) : Option (Int32 × MOv) :=
  (f_X8_refused v0 (b2i y0)).bind (fun q1182 => if (b2i q1182.1) = 0 then if x1 = (0 : Int32) then some ((v2 (0 : Int32).toNatClampNeg), q1182.2) else if x1 = (1 : Int32) then (f_X8_allOf (v2 (0 : Int32).toNatClampNeg)).bind (fun q1199 => some (q1199, q1182.2)) else if x1 = (2 : Int32) then (f_X8_leftOf v2).bind (fun q1198 => some (q1198, q1182.2)) else if x1 = (3 : Int32) then some ((v2 (4 : Int32).toNatClampNeg), q1182.2) else if x1 = (4 : Int32) then if (x1 - (2 : Int32)) < 0 ∨ 107 ≤ (x1 - (2 : Int32)).toNatClampNeg then none else some ((v2 (x1 - (2 : Int32)).toNatClampNeg), q1182.2) else if x1 = (5 : Int32) then if (x1 - (2 : Int32)) < 0 ∨ 107 ≤ (x1 - (2 : Int32)).toNatClampNeg then none else some ((v2 (x1 - (2 : Int32)).toNatClampNeg), q1182.2) else if x1 = (6 : Int32) then (itl (f_X8_about_B113 q1182.2 v2) FU ((0 : Int32), (0 : Int32))).bind (fun q1195 => some (q1195, q1182.2)) else if (x1 - (2 : Int32)) < 0 ∨ 107 ≤ (x1 - (2 : Int32)).toNatClampNeg then none else some ((v2 (x1 - (2 : Int32)).toNatClampNeg), q1182.2) else some ((0 : Int32), q1182.2))
set_option maxRecDepth 100000 in
set_option maxHeartbeats 4000000 in
theorem j_X8_about_b18 {p : Program} {l : Launch} {e : Env} {s : State} {m : MethodId} {args : Array Value} {below : List Frame} {meth : Method} {c : Code} {A : Nat → Prop} {D : va_G} {cy : Nat → ClassId} {ad : (Nat → Nat) × (Nat → Nat)} (X : gK p s m args meth c A D cy ad cX8_about 4 RX8) (hr : meth.sig.returnType = (some .int)) {h0 h1 h2 h3 h4 h5 h6 h7 h8 : Nat} (v0 : MOv) (v2 : Fn) (x1 : Int32) (y0 : Bool) {q : Int32 × MOv} (hf : f_X8_about_b18 v0 v2 x1 y0 = some q) : GW p l e rmX8_about s m args below meth c A D 4 0 0 (MQ below (cmQ D cy A (some (.int q.1)) ([MO h0 h1 h2 h3 h4 h5 h6 h7 h8 q.2, AI cy 107 h2 v2] : List va_W).flatten) args s 0 0 A) 18 [(0, .ref h0), (1, .int x1)] [.int (b2i y0), .ref h0] [MO h0 h1 h2 h3 h4 h5 h6 h7 h8 v0, AI cy 107 h2 v2] := by
  unfold f_X8_about_b18 at hf
  obtain ⟨q1182, hq1182, hf⟩ := obind hf
  refine g_callV (gs' := [MO h0 h1 h2 h3 h4 h5 h6 h7 h8 q1182.2, AI cy 107 h2 v2]) (rest := []) X dX8_about_18 (c_X8_refused l D cy ad h0 h1 h2 h3 h4 h5 h6 h7 h8 v0 (b2i y0) hq1182) mf_X8_refused mv_X8_refused lkm_X8_102 ⟨(Nat.le_of_ble_eq_true rfl), (Nat.le_of_ble_eq_true rfl), (Nat.le_of_ble_eq_true rfl), (Nat.le_of_ble_eq_true rfl)⟩ 0 0 rfl rfl rfl rfl [0, 1] _ (by decide : [0, 1].Perm (List.range 2)) rfl (by decide : [0, 1].Perm (List.range 2)) rfl (Nat.le_of_ble_eq_true rfl) rfl ?_
  refine g_if_eq X 26 dX8_about_21 (by decide) (fun c1200 => ?_) (fun c1200 => ?_)
  · have hf := opos c1200 hf
    refine g_iload_n X dX8_about_26 1 rfl rfl ?_
    by_cases c1184 : x1 = (0 : Int32)
    · have hf := opos c1184 hf
      refine g_tableIn (off := 41) X 68 dX8_about_27 (by rw [c1184]; decide) (by rw [c1184]; decide) (by rw [c1184]; decide) (by decide) ?_
      refine g_aload_n X dX8_about_68 0 rfl rfl ?_
      refine g_get X dX8_about_69 ck_X8 0 0 3 rfl rfl (Nat.le_of_ble_eq_true rfl) lkf_X8_13 rfl ?_
      refine g_iconst X (0 : Int32) dX8_about_72 (by decide) ?_
      refine g_iaload X dX8_about_73 1 0 rfl rfl (by decide) ?_
      have hf := Option.some.inj hf
      subst hf
      exact g_iret X hr dX8_about_74
    · have hf := oneg c1184 hf
      by_cases c1185 : x1 = (1 : Int32)
      · have hf := opos c1185 hf
        refine g_tableIn (off := 48) X 75 dX8_about_27 (by rw [c1185]; decide) (by rw [c1185]; decide) (by rw [c1185]; decide) (by decide) ?_
        refine g_aload_n X dX8_about_75 0 rfl rfl ?_
        refine g_get X dX8_about_76 ck_X8 0 0 3 rfl rfl (Nat.le_of_ble_eq_true rfl) lkf_X8_13 rfl ?_
        refine g_iconst X (0 : Int32) dX8_about_79 (by decide) ?_
        refine g_iaload X dX8_about_80 1 0 rfl rfl (by decide) ?_
        obtain ⟨q1199, hq1199, hf⟩ := obind hf
        refine g_callS (gs' := [MO h0 h1 h2 h3 h4 h5 h6 h7 h8 q1182.2, AI cy 107 h2 v2]) (rest := []) X dX8_about_81 (c_X8_allOf l D cy ad (v2 (0 : Int32).toNatClampNeg) hq1199) mf_X8_allOf ms_X8_allOf lkm_X8_72 ⟨(Nat.le_of_ble_eq_true rfl), (Nat.le_of_ble_eq_true rfl), (Nat.le_of_ble_eq_true rfl), (Nat.le_of_ble_eq_true rfl)⟩ [0, 1] _ (by decide : [0, 1].Perm (List.range 2)) rfl (by decide : [0, 1].Perm (List.range 2)) rfl (Nat.le_of_ble_eq_true rfl) rfl ?_
        have hf := Option.some.inj hf
        subst hf
        exact g_iret X hr dX8_about_84
      · have hf := oneg c1185 hf
        by_cases c1186 : x1 = (2 : Int32)
        · have hf := opos c1186 hf
          refine g_tableIn (off := 58) X 85 dX8_about_27 (by rw [c1186]; decide) (by rw [c1186]; decide) (by rw [c1186]; decide) (by decide) ?_
          refine g_aload_n X dX8_about_85 0 rfl rfl ?_
          refine g_get X dX8_about_86 ck_X8 0 0 3 rfl rfl (Nat.le_of_ble_eq_true rfl) lkf_X8_13 rfl ?_
          obtain ⟨q1198, hq1198, hf⟩ := obind hf
          refine g_callS (gs' := [MO h0 h1 h2 h3 h4 h5 h6 h7 h8 q1182.2, AI cy 107 h2 v2]) (rest := []) X dX8_about_89 (c_X8_leftOf l D cy ad h2 v2 hq1198) mf_X8_leftOf ms_X8_leftOf lkm_X8_86 ⟨(Nat.le_of_ble_eq_true rfl), (Nat.le_of_ble_eq_true rfl), (Nat.le_of_ble_eq_true rfl), (Nat.le_of_ble_eq_true rfl)⟩ [1, 0] _ (by decide : [1, 0].Perm (List.range 2)) rfl (by decide : [1, 0].Perm (List.range 2)) rfl (Nat.le_of_ble_eq_true rfl) rfl ?_
          have hf := Option.some.inj hf
          subst hf
          exact g_iret X hr dX8_about_92
        · have hf := oneg c1186 hf
          by_cases c1187 : x1 = (3 : Int32)
          · have hf := opos c1187 hf
            refine g_tableIn (off := 66) X 93 dX8_about_27 (by rw [c1187]; decide) (by rw [c1187]; decide) (by rw [c1187]; decide) (by decide) ?_
            refine g_aload_n X dX8_about_93 0 rfl rfl ?_
            refine g_get X dX8_about_94 ck_X8 0 0 3 rfl rfl (Nat.le_of_ble_eq_true rfl) lkf_X8_13 rfl ?_
            refine g_iconst X (4 : Int32) dX8_about_97 (by decide) ?_
            refine g_iaload X dX8_about_98 1 0 rfl rfl (by decide) ?_
            have hf := Option.some.inj hf
            subst hf
            exact g_iret X hr dX8_about_99
          · have hf := oneg c1187 hf
            by_cases c1188 : x1 = (4 : Int32)
            · have hf := opos c1188 hf
              refine g_tableIn (off := 73) X 100 dX8_about_27 (by rw [c1188]; decide) (by rw [c1188]; decide) (by rw [c1188]; decide) (by decide) ?_
              refine g_aload_n X dX8_about_100 0 rfl rfl ?_
              refine g_get X dX8_about_101 ck_X8 0 0 3 rfl rfl (Nat.le_of_ble_eq_true rfl) lkf_X8_13 rfl ?_
              refine g_iload_n X dX8_about_104 1 rfl rfl ?_
              refine g_iconst X (2 : Int32) dX8_about_105 (by decide) ?_
              refine g_isub X dX8_about_106 ?_
              obtain ⟨n1197, hf⟩ := oguard hf
              refine g_iaload X dX8_about_107 1 0 rfl rfl n1197 ?_
              have hf := Option.some.inj hf
              subst hf
              exact g_iret X hr dX8_about_108
            · have hf := oneg c1188 hf
              by_cases c1189 : x1 = (5 : Int32)
              · have hf := opos c1189 hf
                refine g_tableIn (off := 73) X 100 dX8_about_27 (by rw [c1189]; decide) (by rw [c1189]; decide) (by rw [c1189]; decide) (by decide) ?_
                refine g_aload_n X dX8_about_100 0 rfl rfl ?_
                refine g_get X dX8_about_101 ck_X8 0 0 3 rfl rfl (Nat.le_of_ble_eq_true rfl) lkf_X8_13 rfl ?_
                refine g_iload_n X dX8_about_104 1 rfl rfl ?_
                refine g_iconst X (2 : Int32) dX8_about_105 (by decide) ?_
                refine g_isub X dX8_about_106 ?_
                obtain ⟨n1196, hf⟩ := oguard hf
                refine g_iaload X dX8_about_107 1 0 rfl rfl n1196 ?_
                have hf := Option.some.inj hf
                subst hf
                exact g_iret X hr dX8_about_108
              · have hf := oneg c1189 hf
                by_cases c1190 : x1 = (6 : Int32)
                · have hf := opos c1190 hf
                  refine g_tableIn (off := 82) X 109 dX8_about_27 (by rw [c1190]; decide) (by rw [c1190]; decide) (by rw [c1190]; decide) (by decide) ?_
                  refine g_iconst X (0 : Int32) dX8_about_109 (by decide) ?_
                  refine g_istore_n (lv' := [(0, .ref h0), (1, .int x1), (2, .int (0 : Int32))]) X dX8_about_110 [1, 2, 0] rfl (Nat.le_of_ble_eq_true rfl) rfl ?_
                  refine g_iconst X (0 : Int32) dX8_about_111 (by decide) ?_
                  refine g_istore_n (lv' := [(0, .ref h0), (1, .int x1), (2, .int (0 : Int32)), (3, .int (0 : Int32))]) X dX8_about_112 [1, 2, 3, 0] rfl (Nat.le_of_ble_eq_true rfl) rfl ?_
                  obtain ⟨q1195, hq1195, hf⟩ := obind hf
                  refine g_sub [0, 2, 3] (lv' := [(0, .ref h0), (2, .int (0 : Int32)), (3, .int (0 : Int32))]) rfl ?_
                  refine w_X8_about_B113 X hr q1182.2 v2 hq1195 ?_
                  refine g_iload_n X dX8_about_158 0 rfl rfl ?_
                  have hf := Option.some.inj hf
                  subst hf
                  exact g_iret X hr dX8_about_159
                · have hf := oneg c1190 hf
                  refine g_tableOut X 160 dX8_about_27 (sw_out (fun k9 h91 h92 h93 => ?_)) (by decide) ?_
                  · have := sw_ne (by decide : ((0 : Int32)).toInt = 0) c1184
                    have := sw_ne (by decide : ((1 : Int32)).toInt = 1) c1185
                    have := sw_ne (by decide : ((2 : Int32)).toInt = 2) c1186
                    have := sw_ne (by decide : ((3 : Int32)).toInt = 3) c1187
                    have := sw_ne (by decide : ((4 : Int32)).toInt = 4) c1188
                    have := sw_ne (by decide : ((5 : Int32)).toInt = 5) c1189
                    have := sw_ne (by decide : ((6 : Int32)).toInt = 6) c1190
                    omega
                  · refine g_aload_n X dX8_about_160 0 rfl rfl ?_
                    refine g_get X dX8_about_161 ck_X8 0 0 3 rfl rfl (Nat.le_of_ble_eq_true rfl) lkf_X8_13 rfl ?_
                    refine g_iload_n X dX8_about_164 1 rfl rfl ?_
                    refine g_iconst X (2 : Int32) dX8_about_165 (by decide) ?_
                    refine g_isub X dX8_about_166 ?_
                    obtain ⟨n1183, hf⟩ := oguard hf
                    refine g_iaload X dX8_about_167 1 0 rfl rfl n1183 ?_
                    have hf := Option.some.inj hf
                    subst hf
                    exact g_iret X hr dX8_about_168
  · have hf := oneg c1200 hf
    refine g_iconst X (0 : Int32) dX8_about_24 (by decide) ?_
    have hf := Option.some.inj hf
    subst hf
    exact g_iret X hr dX8_about_25
def f_X8_about (v0 : MOv) (v2 : Fn) (p1 : Int32) : Option (Int32 × MOv) :=
  (f_X8_in (p1.toInt64) (0 : Int64) (8 : Int64)).bind (fun q1181 => if (b2i q1181) = 0 then f_X8_about_b18 v0 v2 p1 true else f_X8_about_b18 v0 v2 p1 false)
set_option maxRecDepth 100000 in
set_option maxHeartbeats 4000000 in
theorem c_X8_about (l : Launch) (D : va_G) (cy : Nat → ClassId) (ad : (Nat → Nat) × (Nat → Nat)) (h0 : Nat) (h1 : Nat) (h2 : Nat) (h3 : Nat) (h4 : Nat) (h5 : Nat) (h6 : Nat) (h7 : Nat) (h8 : Nat) (v0 : MOv) (v2 : Fn) (p1 : Int32) {q : Int32 × MOv} (hf : f_X8_about v0 v2 p1 = some q) : CM l yX8_about cX8_about 4 (some .int) rmX8_about D cy ad [.ref h0, .int p1] [MO h0 h1 h2 h3 h4 h5 h6 h7 h8 v0, AI cy 107 h2 v2] (some (.int q.1)) [MO h0 h1 h2 h3 h4 h5 h6 h7 h8 q.2, AI cy 107 h2 v2] := by
  refine cm_of (lv0 := [(0, .ref h0), (1, .int p1)]) (by decide) (Nat.le_of_ble_eq_true rfl) rfl ?_
  intro p e s m args below meth c A X hr hn
  have X : gK p s m args meth c A D cy ad cX8_about 4 RX8 := X
  unfold f_X8_about at hf
  refine g_aload_n X dX8_about_0 0 rfl rfl ?_
  refine g_iload_n X dX8_about_1 1 rfl rfl ?_
  refine g_i2l X dX8_about_2 ?_
  refine g_lconst X (0 : Int64) dX8_about_3 (by decide) ?_
  refine g_ldc2 X lkl_X8_161 dX8_about_4 ?_
  obtain ⟨q1181, hq1181, hf⟩ := obind hf
  refine g_callS (gs' := [MO h0 h1 h2 h3 h4 h5 h6 h7 h8 v0, AI cy 107 h2 v2]) (rest := [.ref h0]) X dX8_about_7 (c_X8_in l D cy ad (p1.toInt64) (0 : Int64) (8 : Int64) hq1181) mf_X8_in ms_X8_in lkm_X8_43 ⟨(Nat.le_of_ble_eq_true rfl), (Nat.le_of_ble_eq_true rfl), (Nat.le_of_ble_eq_true rfl), (Nat.le_of_ble_eq_true rfl)⟩ [0, 1] _ (by decide : [0, 1].Perm (List.range 2)) rfl (by decide : [0, 1].Perm (List.range 2)) rfl (Nat.le_of_ble_eq_true rfl) rfl ?_
  refine g_if_eq X 17 dX8_about_10 (by decide) (fun c1201 => ?_) (fun c1201 => ?_)
  · have hf := opos c1201 hf
    refine g_iconst X (1 : Int32) dX8_about_17 (by decide) ?_
    exact j_X8_about_b18 X hr v0 v2 p1 true hf
  · have hf := oneg c1201 hf
    refine g_iconst X (0 : Int32) dX8_about_13 (by decide) ?_
    refine g_goto X 18 dX8_about_14 (by decide) ?_
    exact j_X8_about_b18 X hr v0 v2 p1 false hf
abbrev rmX8_coin : Room := ({ frames := 5, cells := 0, slots := 0, locals := 117 } : Room)
def f_X8_coin_b17 (v0 : MOv) (v2 : Fn) (x1 : Int32) (y0 : Bool) : Option (Int32 × MOv) :=
  (f_X8_refused v0 (b2i y0)).bind (fun q1209 => if (b2i q1209.1) = 0 then (f_X8_coinOf v2 x1).bind (fun q1210 => some (q1210, q1209.2)) else some ((0 : Int32), q1209.2))
set_option maxRecDepth 100000 in
set_option maxHeartbeats 4000000 in
theorem j_X8_coin_b17 {p : Program} {l : Launch} {e : Env} {s : State} {m : MethodId} {args : Array Value} {below : List Frame} {meth : Method} {c : Code} {A : Nat → Prop} {D : va_G} {cy : Nat → ClassId} {ad : (Nat → Nat) × (Nat → Nat)} (X : gK p s m args meth c A D cy ad cX8_coin 2 RX8) (hr : meth.sig.returnType = (some .int)) {h0 h1 h2 h3 h4 h5 h6 h7 h8 : Nat} (v0 : MOv) (v2 : Fn) (x1 : Int32) (y0 : Bool) {q : Int32 × MOv} (hf : f_X8_coin_b17 v0 v2 x1 y0 = some q) : GW p l e rmX8_coin s m args below meth c A D 2 0 0 (MQ below (cmQ D cy A (some (.int q.1)) ([MO h0 h1 h2 h3 h4 h5 h6 h7 h8 q.2, AI cy 107 h2 v2] : List va_W).flatten) args s 0 0 A) 17 [(0, .ref h0), (1, .int x1)] [.int (b2i y0), .ref h0] [MO h0 h1 h2 h3 h4 h5 h6 h7 h8 v0, AI cy 107 h2 v2] := by
  unfold f_X8_coin_b17 at hf
  obtain ⟨q1209, hq1209, hf⟩ := obind hf
  refine g_callV (gs' := [MO h0 h1 h2 h3 h4 h5 h6 h7 h8 q1209.2, AI cy 107 h2 v2]) (rest := []) X dX8_coin_17 (c_X8_refused l D cy ad h0 h1 h2 h3 h4 h5 h6 h7 h8 v0 (b2i y0) hq1209) mf_X8_refused mv_X8_refused lkm_X8_102 ⟨(Nat.le_of_ble_eq_true rfl), (Nat.le_of_ble_eq_true rfl), (Nat.le_of_ble_eq_true rfl), (Nat.le_of_ble_eq_true rfl)⟩ 0 0 rfl rfl rfl rfl [0, 1] _ (by decide : [0, 1].Perm (List.range 2)) rfl (by decide : [0, 1].Perm (List.range 2)) rfl (Nat.le_of_ble_eq_true rfl) rfl ?_
  refine g_if_eq X 25 dX8_coin_20 (by decide) (fun c1211 => ?_) (fun c1211 => ?_)
  · have hf := opos c1211 hf
    refine g_aload_n X dX8_coin_25 0 rfl rfl ?_
    refine g_get X dX8_coin_26 ck_X8 0 0 3 rfl rfl (Nat.le_of_ble_eq_true rfl) lkf_X8_13 rfl ?_
    refine g_iload_n X dX8_coin_29 1 rfl rfl ?_
    obtain ⟨q1210, hq1210, hf⟩ := obind hf
    refine g_callS (gs' := [MO h0 h1 h2 h3 h4 h5 h6 h7 h8 q1209.2, AI cy 107 h2 v2]) (rest := []) X dX8_coin_30 (c_X8_coinOf l D cy ad h2 v2 x1 hq1210) mf_X8_coinOf ms_X8_coinOf lkm_X8_166 ⟨(Nat.le_of_ble_eq_true rfl), (Nat.le_of_ble_eq_true rfl), (Nat.le_of_ble_eq_true rfl), (Nat.le_of_ble_eq_true rfl)⟩ [1, 0] _ (by decide : [1, 0].Perm (List.range 2)) rfl (by decide : [1, 0].Perm (List.range 2)) rfl (Nat.le_of_ble_eq_true rfl) rfl ?_
    have hf := Option.some.inj hf
    subst hf
    exact g_iret X hr dX8_coin_33
  · have hf := oneg c1211 hf
    refine g_iconst X (0 : Int32) dX8_coin_23 (by decide) ?_
    have hf := Option.some.inj hf
    subst hf
    exact g_iret X hr dX8_coin_24
def f_X8_coin (v0 : MOv) (v2 : Fn) (p1 : Int32) : Option (Int32 × MOv) :=
  (f_X8_isCoin v2 p1).bind (fun q1208 => if (b2i q1208) = 0 then f_X8_coin_b17 v0 v2 p1 true else f_X8_coin_b17 v0 v2 p1 false)
set_option maxRecDepth 100000 in
set_option maxHeartbeats 4000000 in
theorem c_X8_coin (l : Launch) (D : va_G) (cy : Nat → ClassId) (ad : (Nat → Nat) × (Nat → Nat)) (h0 : Nat) (h1 : Nat) (h2 : Nat) (h3 : Nat) (h4 : Nat) (h5 : Nat) (h6 : Nat) (h7 : Nat) (h8 : Nat) (v0 : MOv) (v2 : Fn) (p1 : Int32) {q : Int32 × MOv} (hf : f_X8_coin v0 v2 p1 = some q) : CM l yX8_coin cX8_coin 2 (some .int) rmX8_coin D cy ad [.ref h0, .int p1] [MO h0 h1 h2 h3 h4 h5 h6 h7 h8 v0, AI cy 107 h2 v2] (some (.int q.1)) [MO h0 h1 h2 h3 h4 h5 h6 h7 h8 q.2, AI cy 107 h2 v2] := by
  refine cm_of (lv0 := [(0, .ref h0), (1, .int p1)]) (by decide) (Nat.le_of_ble_eq_true rfl) rfl ?_
  intro p e s m args below meth c A X hr hn
  have X : gK p s m args meth c A D cy ad cX8_coin 2 RX8 := X
  unfold f_X8_coin at hf
  refine g_aload_n X dX8_coin_0 0 rfl rfl ?_
  refine g_aload_n X dX8_coin_1 0 rfl rfl ?_
  refine g_get X dX8_coin_2 ck_X8 0 0 3 rfl rfl (Nat.le_of_ble_eq_true rfl) lkf_X8_13 rfl ?_
  refine g_iload_n X dX8_coin_5 1 rfl rfl ?_
  obtain ⟨q1208, hq1208, hf⟩ := obind hf
  refine g_callS (gs' := [MO h0 h1 h2 h3 h4 h5 h6 h7 h8 v0, AI cy 107 h2 v2]) (rest := [.ref h0]) X dX8_coin_6 (c_X8_isCoin l D cy ad h2 v2 p1 hq1208) mf_X8_isCoin ms_X8_isCoin lkm_X8_163 ⟨(Nat.le_of_ble_eq_true rfl), (Nat.le_of_ble_eq_true rfl), (Nat.le_of_ble_eq_true rfl), (Nat.le_of_ble_eq_true rfl)⟩ [1, 0] _ (by decide : [1, 0].Perm (List.range 2)) rfl (by decide : [1, 0].Perm (List.range 2)) rfl (Nat.le_of_ble_eq_true rfl) rfl ?_
  refine g_if_eq X 16 dX8_coin_9 (by decide) (fun c1212 => ?_) (fun c1212 => ?_)
  · have hf := opos c1212 hf
    refine g_iconst X (1 : Int32) dX8_coin_16 (by decide) ?_
    exact j_X8_coin_b17 X hr v0 v2 p1 true hf
  · have hf := oneg c1212 hf
    refine g_iconst X (0 : Int32) dX8_coin_12 (by decide) ?_
    refine g_goto X 17 dX8_coin_13 (by decide) ?_
    exact j_X8_coin_b17 X hr v0 v2 p1 false hf
abbrev rmX8_pans : Room := ({ frames := 5, cells := 0, slots := 0, locals := 116 } : Room)
def f_X8_pans (v0 : MOv) (v2 : Fn) : Option (Int32 × MOv) :=
  (f_X8_pansOf v2).bind (fun q1215 => some (q1215, ((0 : Int32), v0.2.1, v0.2.2.1, v0.2.2.2.1, v0.2.2.2.2.1, v0.2.2.2.2.2)))
set_option maxRecDepth 100000 in
set_option maxHeartbeats 4000000 in
theorem c_X8_pans (l : Launch) (D : va_G) (cy : Nat → ClassId) (ad : (Nat → Nat) × (Nat → Nat)) (h0 : Nat) (h1 : Nat) (h2 : Nat) (h3 : Nat) (h4 : Nat) (h5 : Nat) (h6 : Nat) (h7 : Nat) (h8 : Nat) (v0 : MOv) (v2 : Fn) {q : Int32 × MOv} (hf : f_X8_pans v0 v2 = some q) : CM l yX8_pans cX8_pans 1 (some .int) rmX8_pans D cy ad [.ref h0] [MO h0 h1 h2 h3 h4 h5 h6 h7 h8 v0, AI cy 107 h2 v2] (some (.int q.1)) [MO h0 h1 h2 h3 h4 h5 h6 h7 h8 q.2, AI cy 107 h2 v2] := by
  refine cm_of (lv0 := [(0, .ref h0)]) (by decide) (Nat.le_of_ble_eq_true rfl) rfl ?_
  intro p e s m args below meth c A X hr hn
  have X : gK p s m args meth c A D cy ad cX8_pans 1 RX8 := X
  unfold f_X8_pans at hf
  refine g_aload_n X dX8_pans_0 0 rfl rfl ?_
  refine g_iconst X (0 : Int32) dX8_pans_1 (by decide) ?_
  refine g_put (gs' := [MO h0 h1 h2 h3 h4 h5 h6 h7 h8 ((0 : Int32), v0.2.1, v0.2.2.1, v0.2.2.2.1, v0.2.2.2.2.1, v0.2.2.2.2.2), AI cy 107 h2 v2]) X dX8_pans_2 ck_X8 ct_X8 0 0 0 rfl rfl (Nat.le_of_ble_eq_true rfl) lkf_X8_39 rfl rfl rfl (Nat.le_of_ble_eq_true rfl) rfl ?_
  refine g_aload_n X dX8_pans_5 0 rfl rfl ?_
  refine g_get X dX8_pans_6 ck_X8 0 0 3 rfl rfl (Nat.le_of_ble_eq_true rfl) lkf_X8_13 rfl ?_
  obtain ⟨q1215, hq1215, hf⟩ := obind hf
  refine g_callS (gs' := [MO h0 h1 h2 h3 h4 h5 h6 h7 h8 ((0 : Int32), v0.2.1, v0.2.2.1, v0.2.2.2.1, v0.2.2.2.2.1, v0.2.2.2.2.2), AI cy 107 h2 v2]) (rest := []) X dX8_pans_9 (c_X8_pansOf l D cy ad h2 v2 hq1215) mf_X8_pansOf ms_X8_pansOf lkm_X8_169 ⟨(Nat.le_of_ble_eq_true rfl), (Nat.le_of_ble_eq_true rfl), (Nat.le_of_ble_eq_true rfl), (Nat.le_of_ble_eq_true rfl)⟩ [1, 0] _ (by decide : [1, 0].Perm (List.range 2)) rfl (by decide : [1, 0].Perm (List.range 2)) rfl (Nat.le_of_ble_eq_true rfl) rfl ?_
  have hf := Option.some.inj hf
  subst hf
  exact g_iret X hr dX8_pans_12
abbrev rmX8_isLeft : Room := ({ frames := 4, cells := 0, slots := 0, locals := 94 } : Room)
def f_X8_isLeft_b27 (v0 : MOv) (v2 : Fn) (x1 : Int32) (y0 : Bool) : Option (Int32 × MOv) :=
  (f_X8_refused v0 (b2i y0)).bind (fun q1226 => if (b2i q1226.1) = 0 then (f_X8_fits v2 x1 (v2 (4 : Int32).toNatClampNeg)).bind (fun q1227 => if (b2i q1227) = 0 then some ((0 : Int32), q1226.2) else some ((1 : Int32), q1226.2)) else some ((0 : Int32), q1226.2))
set_option maxRecDepth 100000 in
set_option maxHeartbeats 4000000 in
theorem j_X8_isLeft_b27 {p : Program} {l : Launch} {e : Env} {s : State} {m : MethodId} {args : Array Value} {below : List Frame} {meth : Method} {c : Code} {A : Nat → Prop} {D : va_G} {cy : Nat → ClassId} {ad : (Nat → Nat) × (Nat → Nat)} (X : gK p s m args meth c A D cy ad cX8_isLeft 2 RX8) (hr : meth.sig.returnType = (some .int)) {h0 h1 h2 h3 h4 h5 h6 h7 h8 : Nat} (v0 : MOv) (v2 : Fn) (x1 : Int32) (y0 : Bool) {q : Int32 × MOv} (hf : f_X8_isLeft_b27 v0 v2 x1 y0 = some q) : GW p l e rmX8_isLeft s m args below meth c A D 2 0 0 (MQ below (cmQ D cy A (some (.int q.1)) ([MO h0 h1 h2 h3 h4 h5 h6 h7 h8 q.2, AI cy 107 h2 v2] : List va_W).flatten) args s 0 0 A) 27 [(0, .ref h0), (1, .int x1)] [.int (b2i y0), .ref h0] [MO h0 h1 h2 h3 h4 h5 h6 h7 h8 v0, AI cy 107 h2 v2] := by
  unfold f_X8_isLeft_b27 at hf
  obtain ⟨q1226, hq1226, hf⟩ := obind hf
  refine g_callV (gs' := [MO h0 h1 h2 h3 h4 h5 h6 h7 h8 q1226.2, AI cy 107 h2 v2]) (rest := []) X dX8_isLeft_27 (c_X8_refused l D cy ad h0 h1 h2 h3 h4 h5 h6 h7 h8 v0 (b2i y0) hq1226) mf_X8_refused mv_X8_refused lkm_X8_102 ⟨(Nat.le_of_ble_eq_true rfl), (Nat.le_of_ble_eq_true rfl), (Nat.le_of_ble_eq_true rfl), (Nat.le_of_ble_eq_true rfl)⟩ 0 0 rfl rfl rfl rfl [0, 1] _ (by decide : [0, 1].Perm (List.range 2)) rfl (by decide : [0, 1].Perm (List.range 2)) rfl (Nat.le_of_ble_eq_true rfl) rfl ?_
  refine g_if_eq X 35 dX8_isLeft_30 (by decide) (fun c1229 => ?_) (fun c1229 => ?_)
  · have hf := opos c1229 hf
    refine g_aload_n X dX8_isLeft_35 0 rfl rfl ?_
    refine g_get X dX8_isLeft_36 ck_X8 0 0 3 rfl rfl (Nat.le_of_ble_eq_true rfl) lkf_X8_13 rfl ?_
    refine g_iload_n X dX8_isLeft_39 1 rfl rfl ?_
    refine g_aload_n X dX8_isLeft_40 0 rfl rfl ?_
    refine g_get X dX8_isLeft_41 ck_X8 0 0 3 rfl rfl (Nat.le_of_ble_eq_true rfl) lkf_X8_13 rfl ?_
    refine g_iconst X (4 : Int32) dX8_isLeft_44 (by decide) ?_
    refine g_iaload X dX8_isLeft_45 1 0 rfl rfl (by decide) ?_
    obtain ⟨q1227, hq1227, hf⟩ := obind hf
    refine g_callS (gs' := [MO h0 h1 h2 h3 h4 h5 h6 h7 h8 q1226.2, AI cy 107 h2 v2]) (rest := []) X dX8_isLeft_46 (c_X8_fits l D cy ad h2 v2 x1 (v2 (4 : Int32).toNatClampNeg) hq1227) mf_X8_fits ms_X8_fits lkm_X8_75 ⟨(Nat.le_of_ble_eq_true rfl), (Nat.le_of_ble_eq_true rfl), (Nat.le_of_ble_eq_true rfl), (Nat.le_of_ble_eq_true rfl)⟩ [1, 0] _ (by decide : [1, 0].Perm (List.range 2)) rfl (by decide : [1, 0].Perm (List.range 2)) rfl (Nat.le_of_ble_eq_true rfl) rfl ?_
    refine g_if_eq X 56 dX8_isLeft_49 (by decide) (fun c1228 => ?_) (fun c1228 => ?_)
    · have hf := opos c1228 hf
      refine g_iconst X (0 : Int32) dX8_isLeft_56 (by decide) ?_
      have hf := Option.some.inj hf
      subst hf
      exact g_iret X hr dX8_isLeft_57
    · have hf := oneg c1228 hf
      refine g_iconst X (1 : Int32) dX8_isLeft_52 (by decide) ?_
      refine g_goto X 57 dX8_isLeft_53 (by decide) ?_
      have hf := Option.some.inj hf
      subst hf
      exact g_iret X hr dX8_isLeft_57
  · have hf := oneg c1229 hf
    refine g_iconst X (0 : Int32) dX8_isLeft_33 (by decide) ?_
    have hf := Option.some.inj hf
    subst hf
    exact g_iret X hr dX8_isLeft_34
def f_X8_isLeft (v0 : MOv) (v2 : Fn) (p1 : Int32) : Option (Int32 × MOv) :=
  (f_X8_allOf (v2 (0 : Int32).toNatClampNeg)).bind (fun q1224 => (f_X8_in (p1.toInt64) (0 : Int64) ((q1224 - (1 : Int32)).toInt64)).bind (fun q1225 => if (b2i q1225) = 0 then f_X8_isLeft_b27 v0 v2 p1 true else f_X8_isLeft_b27 v0 v2 p1 false))
set_option maxRecDepth 100000 in
set_option maxHeartbeats 4000000 in
theorem c_X8_isLeft (l : Launch) (D : va_G) (cy : Nat → ClassId) (ad : (Nat → Nat) × (Nat → Nat)) (h0 : Nat) (h1 : Nat) (h2 : Nat) (h3 : Nat) (h4 : Nat) (h5 : Nat) (h6 : Nat) (h7 : Nat) (h8 : Nat) (v0 : MOv) (v2 : Fn) (p1 : Int32) {q : Int32 × MOv} (hf : f_X8_isLeft v0 v2 p1 = some q) : CM l yX8_isLeft cX8_isLeft 2 (some .int) rmX8_isLeft D cy ad [.ref h0, .int p1] [MO h0 h1 h2 h3 h4 h5 h6 h7 h8 v0, AI cy 107 h2 v2] (some (.int q.1)) [MO h0 h1 h2 h3 h4 h5 h6 h7 h8 q.2, AI cy 107 h2 v2] := by
  refine cm_of (lv0 := [(0, .ref h0), (1, .int p1)]) (by decide) (Nat.le_of_ble_eq_true rfl) rfl ?_
  intro p e s m args below meth c A X hr hn
  have X : gK p s m args meth c A D cy ad cX8_isLeft 2 RX8 := X
  unfold f_X8_isLeft at hf
  refine g_aload_n X dX8_isLeft_0 0 rfl rfl ?_
  refine g_iload_n X dX8_isLeft_1 1 rfl rfl ?_
  refine g_i2l X dX8_isLeft_2 ?_
  refine g_lconst X (0 : Int64) dX8_isLeft_3 (by decide) ?_
  refine g_aload_n X dX8_isLeft_4 0 rfl rfl ?_
  refine g_get X dX8_isLeft_5 ck_X8 0 0 3 rfl rfl (Nat.le_of_ble_eq_true rfl) lkf_X8_13 rfl ?_
  refine g_iconst X (0 : Int32) dX8_isLeft_8 (by decide) ?_
  refine g_iaload X dX8_isLeft_9 1 0 rfl rfl (by decide) ?_
  obtain ⟨q1224, hq1224, hf⟩ := obind hf
  refine g_callS (gs' := [MO h0 h1 h2 h3 h4 h5 h6 h7 h8 v0, AI cy 107 h2 v2]) (rest := [.long (0 : Int64), .long (p1.toInt64), .ref h0]) X dX8_isLeft_10 (c_X8_allOf l D cy ad (v2 (0 : Int32).toNatClampNeg) hq1224) mf_X8_allOf ms_X8_allOf lkm_X8_72 ⟨(Nat.le_of_ble_eq_true rfl), (Nat.le_of_ble_eq_true rfl), (Nat.le_of_ble_eq_true rfl), (Nat.le_of_ble_eq_true rfl)⟩ [0, 1] _ (by decide : [0, 1].Perm (List.range 2)) rfl (by decide : [0, 1].Perm (List.range 2)) rfl (Nat.le_of_ble_eq_true rfl) rfl ?_
  refine g_iconst X (1 : Int32) dX8_isLeft_13 (by decide) ?_
  refine g_isub X dX8_isLeft_14 ?_
  refine g_i2l X dX8_isLeft_15 ?_
  obtain ⟨q1225, hq1225, hf⟩ := obind hf
  refine g_callS (gs' := [MO h0 h1 h2 h3 h4 h5 h6 h7 h8 v0, AI cy 107 h2 v2]) (rest := [.ref h0]) X dX8_isLeft_16 (c_X8_in l D cy ad (p1.toInt64) (0 : Int64) ((q1224 - (1 : Int32)).toInt64) hq1225) mf_X8_in ms_X8_in lkm_X8_43 ⟨(Nat.le_of_ble_eq_true rfl), (Nat.le_of_ble_eq_true rfl), (Nat.le_of_ble_eq_true rfl), (Nat.le_of_ble_eq_true rfl)⟩ [0, 1] _ (by decide : [0, 1].Perm (List.range 2)) rfl (by decide : [0, 1].Perm (List.range 2)) rfl (Nat.le_of_ble_eq_true rfl) rfl ?_
  refine g_if_eq X 26 dX8_isLeft_19 (by decide) (fun c1230 => ?_) (fun c1230 => ?_)
  · have hf := opos c1230 hf
    refine g_iconst X (1 : Int32) dX8_isLeft_26 (by decide) ?_
    exact j_X8_isLeft_b27 X hr v0 v2 p1 true hf
  · have hf := oneg c1230 hf
    refine g_iconst X (0 : Int32) dX8_isLeft_22 (by decide) ?_
    refine g_goto X 27 dX8_isLeft_23 (by decide) ?_
    exact j_X8_isLeft_b27 X hr v0 v2 p1 false hf
abbrev rmX8_weighing : Room := ({ frames := 5, cells := 0, slots := 0, locals := 117 } : Room)
def f_X8_weighing_b40 (v0 : MOv) (v2 : Fn) (x1 : Int32) (x2 : Int32) (y0 : Int32) : Option (Int32 × MOv) :=
  (f_X8_refused v0 y0).bind (fun q1245 => if (b2i q1245.1) = 0 then if x2 = (5 : Int32) then (f_X8_many v2 (x1 + (1 : Int32))).bind (fun q1248 => some (q1248, q1245.2)) else (f_X8_at x1).bind (fun q1246 => if (q1246 + x2) < 0 ∨ 107 ≤ (q1246 + x2).toNatClampNeg then none else some ((v2 (q1246 + x2).toNatClampNeg), q1245.2)) else some ((0 : Int32), q1245.2))
set_option maxRecDepth 100000 in
set_option maxHeartbeats 4000000 in
theorem j_X8_weighing_b40 {p : Program} {l : Launch} {e : Env} {s : State} {m : MethodId} {args : Array Value} {below : List Frame} {meth : Method} {c : Code} {A : Nat → Prop} {D : va_G} {cy : Nat → ClassId} {ad : (Nat → Nat) × (Nat → Nat)} (X : gK p s m args meth c A D cy ad cX8_weighing 3 RX8) (hr : meth.sig.returnType = (some .int)) {h0 h1 h2 h3 h4 h5 h6 h7 h8 : Nat} (v0 : MOv) (v2 : Fn) (x1 : Int32) (x2 : Int32) (y0 : Int32) {q : Int32 × MOv} (hf : f_X8_weighing_b40 v0 v2 x1 x2 y0 = some q) : GW p l e rmX8_weighing s m args below meth c A D 3 0 0 (MQ below (cmQ D cy A (some (.int q.1)) ([MO h0 h1 h2 h3 h4 h5 h6 h7 h8 q.2, AI cy 107 h2 v2] : List va_W).flatten) args s 0 0 A) 40 [(0, .ref h0), (1, .int x1), (2, .int x2)] [.int y0, .ref h0] [MO h0 h1 h2 h3 h4 h5 h6 h7 h8 v0, AI cy 107 h2 v2] := by
  unfold f_X8_weighing_b40 at hf
  obtain ⟨q1245, hq1245, hf⟩ := obind hf
  refine g_callV (gs' := [MO h0 h1 h2 h3 h4 h5 h6 h7 h8 q1245.2, AI cy 107 h2 v2]) (rest := []) X dX8_weighing_40 (c_X8_refused l D cy ad h0 h1 h2 h3 h4 h5 h6 h7 h8 v0 y0 hq1245) mf_X8_refused mv_X8_refused lkm_X8_102 ⟨(Nat.le_of_ble_eq_true rfl), (Nat.le_of_ble_eq_true rfl), (Nat.le_of_ble_eq_true rfl), (Nat.le_of_ble_eq_true rfl)⟩ 0 0 rfl rfl rfl rfl [0, 1] _ (by decide : [0, 1].Perm (List.range 2)) rfl (by decide : [0, 1].Perm (List.range 2)) rfl (Nat.le_of_ble_eq_true rfl) rfl ?_
  refine g_if_eq X 48 dX8_weighing_43 (by decide) (fun c1250 => ?_) (fun c1250 => ?_)
  · have hf := opos c1250 hf
    refine g_iload_n X dX8_weighing_48 2 rfl rfl ?_
    refine g_iconst X (5 : Int32) dX8_weighing_49 (by decide) ?_
    refine g_icmp_ne X 66 dX8_weighing_50 (by decide) (fun c1249 => ?_) (fun c1249 => ?_)
    · have hf := oneg c1249 hf
      refine g_aload_n X dX8_weighing_66 0 rfl rfl ?_
      refine g_get X dX8_weighing_67 ck_X8 0 0 3 rfl rfl (Nat.le_of_ble_eq_true rfl) lkf_X8_13 rfl ?_
      refine g_iload_n X dX8_weighing_70 1 rfl rfl ?_
      obtain ⟨q1246, hq1246, hf⟩ := obind hf
      refine g_callS (gs' := [MO h0 h1 h2 h3 h4 h5 h6 h7 h8 q1245.2, AI cy 107 h2 v2]) (rest := [.ref h2]) X dX8_weighing_71 (c_X8_at l D cy ad x1 hq1246) mf_X8_at ms_X8_at lkm_X8_65 ⟨(Nat.le_of_ble_eq_true rfl), (Nat.le_of_ble_eq_true rfl), (Nat.le_of_ble_eq_true rfl), (Nat.le_of_ble_eq_true rfl)⟩ [0, 1] _ (by decide : [0, 1].Perm (List.range 2)) rfl (by decide : [0, 1].Perm (List.range 2)) rfl (Nat.le_of_ble_eq_true rfl) rfl ?_
      refine g_iload_n X dX8_weighing_74 2 rfl rfl ?_
      refine g_iadd X dX8_weighing_75 ?_
      obtain ⟨n1247, hf⟩ := oguard hf
      refine g_iaload X dX8_weighing_76 1 0 rfl rfl n1247 ?_
      have hf := Option.some.inj hf
      subst hf
      exact g_iret X hr dX8_weighing_77
    · have hf := opos c1249 hf
      refine g_aload_n X dX8_weighing_53 0 rfl rfl ?_
      refine g_get X dX8_weighing_54 ck_X8 0 0 3 rfl rfl (Nat.le_of_ble_eq_true rfl) lkf_X8_13 rfl ?_
      refine g_iload_n X dX8_weighing_57 1 rfl rfl ?_
      refine g_iconst X (1 : Int32) dX8_weighing_58 (by decide) ?_
      refine g_iadd X dX8_weighing_59 ?_
      obtain ⟨q1248, hq1248, hf⟩ := obind hf
      refine g_callS (gs' := [MO h0 h1 h2 h3 h4 h5 h6 h7 h8 q1245.2, AI cy 107 h2 v2]) (rest := []) X dX8_weighing_60 (c_X8_many l D cy ad h2 v2 (x1 + (1 : Int32)) hq1248) mf_X8_many ms_X8_many lkm_X8_79 ⟨(Nat.le_of_ble_eq_true rfl), (Nat.le_of_ble_eq_true rfl), (Nat.le_of_ble_eq_true rfl), (Nat.le_of_ble_eq_true rfl)⟩ [1, 0] _ (by decide : [1, 0].Perm (List.range 2)) rfl (by decide : [1, 0].Perm (List.range 2)) rfl (Nat.le_of_ble_eq_true rfl) rfl ?_
      refine g_goto X 77 dX8_weighing_63 (by decide) ?_
      have hf := Option.some.inj hf
      subst hf
      exact g_iret X hr dX8_weighing_77
  · have hf := oneg c1250 hf
    refine g_iconst X (0 : Int32) dX8_weighing_46 (by decide) ?_
    have hf := Option.some.inj hf
    subst hf
    exact g_iret X hr dX8_weighing_47
def f_X8_weighing (v0 : MOv) (v2 : Fn) (p1 : Int32) (p2 : Int32) : Option (Int32 × MOv) :=
  (f_X8_in (p1.toInt64) (0 : Int64) (((v2 (4 : Int32).toNatClampNeg) - (1 : Int32)).toInt64)).bind (fun q1243 => if (b2i q1243) = 0 then f_X8_weighing_b40 v0 v2 p1 p2 (1 : Int32) else (f_X8_in (p2.toInt64) (0 : Int64) (5 : Int64)).bind (fun q1244 => if (b2i q1244) = 0 then f_X8_weighing_b40 v0 v2 p1 p2 (2 : Int32) else f_X8_weighing_b40 v0 v2 p1 p2 (0 : Int32)))
set_option maxRecDepth 100000 in
set_option maxHeartbeats 4000000 in
theorem c_X8_weighing (l : Launch) (D : va_G) (cy : Nat → ClassId) (ad : (Nat → Nat) × (Nat → Nat)) (h0 : Nat) (h1 : Nat) (h2 : Nat) (h3 : Nat) (h4 : Nat) (h5 : Nat) (h6 : Nat) (h7 : Nat) (h8 : Nat) (v0 : MOv) (v2 : Fn) (p1 : Int32) (p2 : Int32) {q : Int32 × MOv} (hf : f_X8_weighing v0 v2 p1 p2 = some q) : CM l yX8_weighing cX8_weighing 3 (some .int) rmX8_weighing D cy ad [.ref h0, .int p1, .int p2] [MO h0 h1 h2 h3 h4 h5 h6 h7 h8 v0, AI cy 107 h2 v2] (some (.int q.1)) [MO h0 h1 h2 h3 h4 h5 h6 h7 h8 q.2, AI cy 107 h2 v2] := by
  refine cm_of (lv0 := [(0, .ref h0), (1, .int p1), (2, .int p2)]) (by decide) (Nat.le_of_ble_eq_true rfl) rfl ?_
  intro p e s m args below meth c A X hr hn
  have X : gK p s m args meth c A D cy ad cX8_weighing 3 RX8 := X
  unfold f_X8_weighing at hf
  refine g_aload_n X dX8_weighing_0 0 rfl rfl ?_
  refine g_iload_n X dX8_weighing_1 1 rfl rfl ?_
  refine g_i2l X dX8_weighing_2 ?_
  refine g_lconst X (0 : Int64) dX8_weighing_3 (by decide) ?_
  refine g_aload_n X dX8_weighing_4 0 rfl rfl ?_
  refine g_get X dX8_weighing_5 ck_X8 0 0 3 rfl rfl (Nat.le_of_ble_eq_true rfl) lkf_X8_13 rfl ?_
  refine g_iconst X (4 : Int32) dX8_weighing_8 (by decide) ?_
  refine g_iaload X dX8_weighing_9 1 0 rfl rfl (by decide) ?_
  refine g_iconst X (1 : Int32) dX8_weighing_10 (by decide) ?_
  refine g_isub X dX8_weighing_11 ?_
  refine g_i2l X dX8_weighing_12 ?_
  obtain ⟨q1243, hq1243, hf⟩ := obind hf
  refine g_callS (gs' := [MO h0 h1 h2 h3 h4 h5 h6 h7 h8 v0, AI cy 107 h2 v2]) (rest := [.ref h0]) X dX8_weighing_13 (c_X8_in l D cy ad (p1.toInt64) (0 : Int64) (((v2 (4 : Int32).toNatClampNeg) - (1 : Int32)).toInt64) hq1243) mf_X8_in ms_X8_in lkm_X8_43 ⟨(Nat.le_of_ble_eq_true rfl), (Nat.le_of_ble_eq_true rfl), (Nat.le_of_ble_eq_true rfl), (Nat.le_of_ble_eq_true rfl)⟩ [0, 1] _ (by decide : [0, 1].Perm (List.range 2)) rfl (by decide : [0, 1].Perm (List.range 2)) rfl (Nat.le_of_ble_eq_true rfl) rfl ?_
  refine g_if_ne X 23 dX8_weighing_16 (by decide) (fun c1252 => ?_) (fun c1252 => ?_)
  · have hf := oneg c1252 hf
    refine g_iload_n X dX8_weighing_23 2 rfl rfl ?_
    refine g_i2l X dX8_weighing_24 ?_
    refine g_lconst X (0 : Int64) dX8_weighing_25 (by decide) ?_
    refine g_ldc2 X lkl_X8_172 dX8_weighing_26 ?_
    obtain ⟨q1244, hq1244, hf⟩ := obind hf
    refine g_callS (gs' := [MO h0 h1 h2 h3 h4 h5 h6 h7 h8 v0, AI cy 107 h2 v2]) (rest := [.ref h0]) X dX8_weighing_29 (c_X8_in l D cy ad (p2.toInt64) (0 : Int64) (5 : Int64) hq1244) mf_X8_in ms_X8_in lkm_X8_43 ⟨(Nat.le_of_ble_eq_true rfl), (Nat.le_of_ble_eq_true rfl), (Nat.le_of_ble_eq_true rfl), (Nat.le_of_ble_eq_true rfl)⟩ [0, 1] _ (by decide : [0, 1].Perm (List.range 2)) rfl (by decide : [0, 1].Perm (List.range 2)) rfl (Nat.le_of_ble_eq_true rfl) rfl ?_
    refine g_if_eq X 39 dX8_weighing_32 (by decide) (fun c1251 => ?_) (fun c1251 => ?_)
    · have hf := opos c1251 hf
      refine g_iconst X (2 : Int32) dX8_weighing_39 (by decide) ?_
      exact j_X8_weighing_b40 X hr v0 v2 p1 p2 (2 : Int32) hf
    · have hf := oneg c1251 hf
      refine g_iconst X (0 : Int32) dX8_weighing_35 (by decide) ?_
      refine g_goto X 40 dX8_weighing_36 (by decide) ?_
      exact j_X8_weighing_b40 X hr v0 v2 p1 p2 (0 : Int32) hf
  · have hf := opos c1252 hf
    refine g_iconst X (1 : Int32) dX8_weighing_19 (by decide) ?_
    refine g_goto X 40 dX8_weighing_20 (by decide) ?_
    exact j_X8_weighing_b40 X hr v0 v2 p1 p2 (1 : Int32) hf
abbrev rmX8_remember : Room := ({ frames := 1, cells := 0, slots := 0, locals := 24 } : Room)
def f_X8_remember_b49 (v0 : MOv) (v2 : Fn) (v4 : Fn) : Option (MOv × Fn) :=
  (f_X8_copyState 107 1498 v2 v4 (0 : Int32) ((107 : Int32) * v0.2.2.1)).bind (fun q1257 => some ((v0.1, v0.2.1, (v0.2.2.1 + (1 : Int32)), v0.2.2.2.1, v0.2.2.2.2.1, v0.2.2.2.2.2), q1257))
set_option maxRecDepth 100000 in
set_option maxHeartbeats 4000000 in
theorem j_X8_remember_b49 {p : Program} {l : Launch} {e : Env} {s : State} {m : MethodId} {args : Array Value} {below : List Frame} {meth : Method} {c : Code} {A : Nat → Prop} {D : va_G} {cy : Nat → ClassId} {ad : (Nat → Nat) × (Nat → Nat)} (X : gK p s m args meth c A D cy ad cX8_remember 2 RX8) (hr : meth.sig.returnType = none) {h0 h1 h2 h3 h4 h5 h6 h7 h8 : Nat} (v0 : MOv) (v2 : Fn) (v4 : Fn) {q : MOv × Fn} (hf : f_X8_remember_b49 v0 v2 v4 = some q) : GW p l e rmX8_remember s m args below meth c A D 2 0 0 (MQ below (cmQ D cy A none ([MO h0 h1 h2 h3 h4 h5 h6 h7 h8 q.1, AI cy 107 h2 v2, AI cy 1498 h4 q.2] : List va_W).flatten) args s 0 0 A) 49 [(0, .ref h0)] [] [MO h0 h1 h2 h3 h4 h5 h6 h7 h8 v0, AI cy 107 h2 v2, AI cy 1498 h4 v4] := by
  unfold f_X8_remember_b49 at hf
  refine g_aload_n X dX8_remember_49 0 rfl rfl ?_
  refine g_get X dX8_remember_50 ck_X8 0 0 3 rfl rfl (Nat.le_of_ble_eq_true rfl) lkf_X8_13 rfl ?_
  refine g_iconst X (0 : Int32) dX8_remember_53 (by decide) ?_
  refine g_aload_n X dX8_remember_54 0 rfl rfl ?_
  refine g_get X dX8_remember_55 ck_X8 0 0 5 rfl rfl (Nat.le_of_ble_eq_true rfl) lkf_X8_19 rfl ?_
  refine g_bipush X (107 : Int32) dX8_remember_58 (by decide) ?_
  refine g_aload_n X dX8_remember_60 0 rfl rfl ?_
  refine g_get X dX8_remember_61 ck_X8 0 0 6 rfl rfl (Nat.le_of_ble_eq_true rfl) lkf_X8_158 rfl ?_
  refine g_imul X dX8_remember_64 ?_
  obtain ⟨q1257, hq1257, hf⟩ := obind hf
  refine g_callS (gs' := [MO h0 h1 h2 h3 h4 h5 h6 h7 h8 v0, AI cy 107 h2 v2, AI cy 1498 h4 q1257]) (rest := []) X dX8_remember_65 (c_X8_copyState l D cy ad h2 h4 107 1498 v2 v4 (0 : Int32) ((107 : Int32) * v0.2.2.1) hq1257) mf_X8_copyState ms_X8_copyState lkm_X8_154 ⟨(Nat.le_of_ble_eq_true rfl), (Nat.le_of_ble_eq_true rfl), (Nat.le_of_ble_eq_true rfl), (Nat.le_of_ble_eq_true rfl)⟩ [1, 2, 0] _ (by decide : [1, 2, 0].Perm (List.range 3)) rfl (by decide : [1, 2, 0].Perm (List.range 3)) rfl (Nat.le_of_ble_eq_true rfl) rfl ?_
  refine g_aload_n X dX8_remember_68 0 rfl rfl ?_
  refine g_dup X dX8_remember_69 rfl ?_
  refine g_get X dX8_remember_70 ck_X8 0 0 6 rfl rfl (Nat.le_of_ble_eq_true rfl) lkf_X8_158 rfl ?_
  refine g_iconst X (1 : Int32) dX8_remember_73 (by decide) ?_
  refine g_iadd X dX8_remember_74 ?_
  refine g_put (gs' := [MO h0 h1 h2 h3 h4 h5 h6 h7 h8 (v0.1, v0.2.1, (v0.2.2.1 + (1 : Int32)), v0.2.2.2.1, v0.2.2.2.2.1, v0.2.2.2.2.2), AI cy 107 h2 v2, AI cy 1498 h4 q1257]) X dX8_remember_75 ck_X8 ct_X8 0 0 6 rfl rfl (Nat.le_of_ble_eq_true rfl) lkf_X8_158 rfl rfl rfl (Nat.le_of_ble_eq_true rfl) rfl ?_
  have hf := Option.some.inj hf
  subst hf
  exact g_vret X hr dX8_remember_78
def f_X8_remember_B11 (v0 : MOv) (v2 : Fn) (z : Int32 × Fn) : Option ((Int32 × Fn) ⊕ ((Fn))) :=
  if (1391 : Int32) ≤ z.1 then some (.inr ((z.2))) else if (z.1 + (107 : Int32)) < 0 ∨ 1498 ≤ (z.1 + (107 : Int32)).toNatClampNeg then none else if z.1 < 0 ∨ 1498 ≤ z.1.toNatClampNeg then none else some (.inl ((z.1 + (1 : Int32)), (upd z.2 z.1.toNatClampNeg (z.2 (z.1 + (107 : Int32)).toNatClampNeg))))
set_option maxRecDepth 100000 in
set_option maxHeartbeats 4000000 in
theorem b_X8_remember_B11 {p : Program} {l : Launch} {e : Env} {s : State} {m : MethodId} {args : Array Value} {below : List Frame} {meth : Method} {c : Code} {A : Nat → Prop} {D : va_G} {cy : Nat → ClassId} {ad : (Nat → Nat) × (Nat → Nat)} {Q : State → Prop} (X : gK p s m args meth c A D cy ad cX8_remember 2 RX8) (hr : meth.sig.returnType = none) {h0 h1 h2 h3 h4 h5 h6 h7 h8 : Nat} (v0 : MOv) (v2 : Fn) (z : Int32 × Fn) {q : (Int32 × Fn) ⊕ ((Fn))} (hf : f_X8_remember_B11 v0 v2 z = some q) (K1 : ∀ s' : Int32 × Fn, q = .inl s' → GW p l e rmX8_remember s m args below meth c A D 2 0 0 Q 11 [(0, .ref h0), (1, .int s'.1)] [] [MO h0 h1 h2 h3 h4 h5 h6 h7 h8 v0, AI cy 107 h2 v2, AI cy 1498 h4 s'.2]) (K2 : ∀ e' : Fn, q = .inr (e') → GW p l e rmX8_remember s m args below meth c A D 2 0 0 Q 39 [(0, .ref h0)] [] [MO h0 h1 h2 h3 h4 h5 h6 h7 h8 v0, AI cy 107 h2 v2, AI cy 1498 h4 e']) : GW p l e rmX8_remember s m args below meth c A D 2 0 0 Q 11 [(0, .ref h0), (1, .int z.1)] [] [MO h0 h1 h2 h3 h4 h5 h6 h7 h8 v0, AI cy 107 h2 v2, AI cy 1498 h4 z.2] := by
  unfold f_X8_remember_B11 at hf
  refine g_iload_n X dX8_remember_11 1 rfl rfl ?_
  refine g_sipush X (1391 : Int32) dX8_remember_12 (by decide) ?_
  refine g_icmp_ge X 39 dX8_remember_15 (by decide) (fun c1260 => ?_) (fun c1260 => ?_)
  · have hf := opos c1260 hf
    refine g_sub [0] (lv' := [(0, .ref h0)]) rfl ?_
    exact K2 (z.2) (Option.some.inj hf).symm
  · have hf := oneg c1260 hf
    refine g_aload_n X dX8_remember_18 0 rfl rfl ?_
    refine g_get X dX8_remember_19 ck_X8 0 0 5 rfl rfl (Nat.le_of_ble_eq_true rfl) lkf_X8_19 rfl ?_
    refine g_iload_n X dX8_remember_22 1 rfl rfl ?_
    refine g_aload_n X dX8_remember_23 0 rfl rfl ?_
    refine g_get X dX8_remember_24 ck_X8 0 0 5 rfl rfl (Nat.le_of_ble_eq_true rfl) lkf_X8_19 rfl ?_
    refine g_iload_n X dX8_remember_27 1 rfl rfl ?_
    refine g_bipush X (107 : Int32) dX8_remember_28 (by decide) ?_
    refine g_iadd X dX8_remember_30 ?_
    obtain ⟨n1258, hf⟩ := oguard hf
    refine g_iaload X dX8_remember_31 2 0 rfl rfl n1258 ?_
    obtain ⟨n1259, hf⟩ := oguard hf
    refine g_iastore (gs' := [MO h0 h1 h2 h3 h4 h5 h6 h7 h8 v0, AI cy 107 h2 v2, AI cy 1498 h4 (upd z.2 z.1.toNatClampNeg (z.2 (z.1 + (107 : Int32)).toNatClampNeg))]) X dX8_remember_32 2 0 rfl rfl n1259 rfl ?_
    refine g_iinc (lv' := [(0, .ref h0), (1, .int (z.1 + (1 : Int32)))]) (v := (1 : Int32)) X dX8_remember_33 1 rfl (by decide) [1, 0] (Nat.le_of_ble_eq_true rfl) rfl ?_
    refine g_goto X 11 dX8_remember_36 (by decide) ?_
    exact K1 ((z.1 + (1 : Int32)), (upd z.2 z.1.toNatClampNeg (z.2 (z.1 + (107 : Int32)).toNatClampNeg))) (Option.some.inj hf).symm
set_option maxRecDepth 100000 in
set_option maxHeartbeats 4000000 in
theorem w_X8_remember_B11 {p : Program} {l : Launch} {e : Env} {s : State} {m : MethodId} {args : Array Value} {below : List Frame} {meth : Method} {c : Code} {A : Nat → Prop} {D : va_G} {cy : Nat → ClassId} {ad : (Nat → Nat) × (Nat → Nat)} {Q : State → Prop} (X : gK p s m args meth c A D cy ad cX8_remember 2 RX8) (hr : meth.sig.returnType = none) {h0 h1 h2 h3 h4 h5 h6 h7 h8 : Nat} (v0 : MOv) (v2 : Fn) {n : Nat} {z : Int32 × Fn} {q : (Fn)} (hf : itl (f_X8_remember_B11 v0 v2) n z = some q) (K2 : GW p l e rmX8_remember s m args below meth c A D 2 0 0 Q 39 [(0, .ref h0)] [] [MO h0 h1 h2 h3 h4 h5 h6 h7 h8 v0, AI cy 107 h2 v2, AI cy 1498 h4 q]) : GW p l e rmX8_remember s m args below meth c A D 2 0 0 Q 11 [(0, .ref h0), (1, .int z.1)] [] [MO h0 h1 h2 h3 h4 h5 h6 h7 h8 v0, AI cy 107 h2 v2, AI cy 1498 h4 z.2] :=
  itl_ind (f := f_X8_remember_B11 v0 v2) (I := fun z => GW p l e rmX8_remember s m args below meth c A D 2 0 0 Q 11 [(0, .ref h0), (1, .int z.1)] [] [MO h0 h1 h2 h3 h4 h5 h6 h7 h8 v0, AI cy 107 h2 v2, AI cy 1498 h4 z.2]) (J := (fun q => GW p l e rmX8_remember s m args below meth c A D 2 0 0 Q 39 [(0, .ref h0)] [] [MO h0 h1 h2 h3 h4 h5 h6 h7 h8 v0, AI cy 107 h2 v2, AI cy 1498 h4 q])) (fun z x h k1 k2 => b_X8_remember_B11 X hr v0 v2 z h (fun s' hs => k1 s' hs) (fun e' he => k2 e' he)) n z q hf K2
def f_X8_remember (v0 : MOv) (v2 : Fn) (v4 : Fn) : Option (MOv × Fn) :=
  if v0.2.2.1 = (14 : Int32) then (itl (f_X8_remember_B11 v0 v2) FU ((0 : Int32), v4)).bind (fun q1261 => f_X8_remember_b49 (v0.1, v0.2.1, (v0.2.2.1 - (1 : Int32)), v0.2.2.2.1, v0.2.2.2.2.1, v0.2.2.2.2.2) v2 q1261) else f_X8_remember_b49 v0 v2 v4
set_option maxRecDepth 100000 in
set_option maxHeartbeats 4000000 in
theorem c_X8_remember (l : Launch) (D : va_G) (cy : Nat → ClassId) (ad : (Nat → Nat) × (Nat → Nat)) (h0 : Nat) (h1 : Nat) (h2 : Nat) (h3 : Nat) (h4 : Nat) (h5 : Nat) (h6 : Nat) (h7 : Nat) (h8 : Nat) (v0 : MOv) (v2 : Fn) (v4 : Fn) {q : MOv × Fn} (hf : f_X8_remember v0 v2 v4 = some q) : CM l yX8_remember cX8_remember 2 none rmX8_remember D cy ad [.ref h0] [MO h0 h1 h2 h3 h4 h5 h6 h7 h8 v0, AI cy 107 h2 v2, AI cy 1498 h4 v4] none [MO h0 h1 h2 h3 h4 h5 h6 h7 h8 q.1, AI cy 107 h2 v2, AI cy 1498 h4 q.2] := by
  refine cm_of (lv0 := [(0, .ref h0)]) (by decide) (Nat.le_of_ble_eq_true rfl) rfl ?_
  intro p e s m args below meth c A X hr hn
  have X : gK p s m args meth c A D cy ad cX8_remember 2 RX8 := X
  unfold f_X8_remember at hf
  refine g_aload_n X dX8_remember_0 0 rfl rfl ?_
  refine g_get X dX8_remember_1 ck_X8 0 0 6 rfl rfl (Nat.le_of_ble_eq_true rfl) lkf_X8_158 rfl ?_
  refine g_bipush X (14 : Int32) dX8_remember_4 (by decide) ?_
  refine g_icmp_ne X 49 dX8_remember_6 (by decide) (fun c1262 => ?_) (fun c1262 => ?_)
  · have hf := oneg c1262 hf
    exact j_X8_remember_b49 X hr v0 v2 v4 hf
  · have hf := opos c1262 hf
    refine g_iconst X (0 : Int32) dX8_remember_9 (by decide) ?_
    refine g_istore_n (lv' := [(0, .ref h0), (1, .int (0 : Int32))]) X dX8_remember_10 [1, 0] rfl (Nat.le_of_ble_eq_true rfl) rfl ?_
    obtain ⟨q1261, hq1261, hf⟩ := obind hf
    refine w_X8_remember_B11 X hr v0 v2 hq1261 ?_
    refine g_aload_n X dX8_remember_39 0 rfl rfl ?_
    refine g_dup X dX8_remember_40 rfl ?_
    refine g_get X dX8_remember_41 ck_X8 0 0 6 rfl rfl (Nat.le_of_ble_eq_true rfl) lkf_X8_158 rfl ?_
    refine g_iconst X (1 : Int32) dX8_remember_44 (by decide) ?_
    refine g_isub X dX8_remember_45 ?_
    refine g_put (gs' := [MO h0 h1 h2 h3 h4 h5 h6 h7 h8 (v0.1, v0.2.1, (v0.2.2.1 - (1 : Int32)), v0.2.2.2.1, v0.2.2.2.2.1, v0.2.2.2.2.2), AI cy 107 h2 v2, AI cy 1498 h4 q1261]) X dX8_remember_46 ck_X8 ct_X8 0 0 6 rfl rfl (Nat.le_of_ble_eq_true rfl) lkf_X8_158 rfl rfl rfl (Nat.le_of_ble_eq_true rfl) rfl ?_
    exact j_X8_remember_b49 X hr (v0.1, v0.2.1, (v0.2.2.1 - (1 : Int32)), v0.2.2.2.1, v0.2.2.2.2.1, v0.2.2.2.2.2) v2 q1261 hf
abbrev rmX8_hide : Room := ({ frames := 2, cells := 0, slots := 0, locals := 45 } : Room)
def f_X8_hide_b33 (v0 : MOv) (v2 : Fn) (v4 : Fn) (x1 : Int32) (x2 : Int32) (y0 : Int32) : Option (Int32 × MOv × Fn × Fn) :=
  (f_X8_refused v0 y0).bind (fun q1278 => if (b2i q1278.1) = 0 then (f_X8_remember q1278.2 v2 v4).bind (fun q1279 => (f_X8_hideOn v2 x1 x2).bind (fun q1280 => some (q1280.1, q1279.1, q1280.2, q1279.2))) else some ((0 : Int32), q1278.2, v2, v4))
set_option maxRecDepth 100000 in
set_option maxHeartbeats 4000000 in
theorem j_X8_hide_b33 {p : Program} {l : Launch} {e : Env} {s : State} {m : MethodId} {args : Array Value} {below : List Frame} {meth : Method} {c : Code} {A : Nat → Prop} {D : va_G} {cy : Nat → ClassId} {ad : (Nat → Nat) × (Nat → Nat)} (X : gK p s m args meth c A D cy ad cX8_hide 3 RX8) (hr : meth.sig.returnType = (some .int)) {h0 h1 h2 h3 h4 h5 h6 h7 h8 : Nat} (v0 : MOv) (v2 : Fn) (v4 : Fn) (x1 : Int32) (x2 : Int32) (y0 : Int32) {q : Int32 × MOv × Fn × Fn} (hf : f_X8_hide_b33 v0 v2 v4 x1 x2 y0 = some q) : GW p l e rmX8_hide s m args below meth c A D 3 0 0 (MQ below (cmQ D cy A (some (.int q.1)) ([MO h0 h1 h2 h3 h4 h5 h6 h7 h8 q.2.1, AI cy 107 h2 q.2.2.1, AI cy 1498 h4 q.2.2.2] : List va_W).flatten) args s 0 0 A) 33 [(0, .ref h0), (1, .int x1), (2, .int x2)] [.int y0, .ref h0] [MO h0 h1 h2 h3 h4 h5 h6 h7 h8 v0, AI cy 107 h2 v2, AI cy 1498 h4 v4] := by
  unfold f_X8_hide_b33 at hf
  obtain ⟨q1278, hq1278, hf⟩ := obind hf
  refine g_callV (gs' := [MO h0 h1 h2 h3 h4 h5 h6 h7 h8 q1278.2, AI cy 107 h2 v2, AI cy 1498 h4 v4]) (rest := []) X dX8_hide_33 (c_X8_refused l D cy ad h0 h1 h2 h3 h4 h5 h6 h7 h8 v0 y0 hq1278) mf_X8_refused mv_X8_refused lkm_X8_102 ⟨(Nat.le_of_ble_eq_true rfl), (Nat.le_of_ble_eq_true rfl), (Nat.le_of_ble_eq_true rfl), (Nat.le_of_ble_eq_true rfl)⟩ 0 0 rfl rfl rfl rfl [0, 1, 2] _ (by decide : [0, 1, 2].Perm (List.range 3)) rfl (by decide : [0, 1, 2].Perm (List.range 3)) rfl (Nat.le_of_ble_eq_true rfl) rfl ?_
  refine g_if_eq X 41 dX8_hide_36 (by decide) (fun c1281 => ?_) (fun c1281 => ?_)
  · have hf := opos c1281 hf
    refine g_aload_n X dX8_hide_41 0 rfl rfl ?_
    obtain ⟨q1279, hq1279, hf⟩ := obind hf
    refine g_callV (gs' := [MO h0 h1 h2 h3 h4 h5 h6 h7 h8 q1279.1, AI cy 107 h2 v2, AI cy 1498 h4 q1279.2]) (rest := []) X dX8_hide_42 (c_X8_remember l D cy ad h0 h1 h2 h3 h4 h5 h6 h7 h8 q1278.2 v2 v4 hq1279) mf_X8_remember mv_X8_remember lkm_X8_177 ⟨(Nat.le_of_ble_eq_true rfl), (Nat.le_of_ble_eq_true rfl), (Nat.le_of_ble_eq_true rfl), (Nat.le_of_ble_eq_true rfl)⟩ 0 0 rfl rfl rfl rfl [0, 1, 2] _ (by decide : [0, 1, 2].Perm (List.range 3)) rfl (by decide : [0, 1, 2].Perm (List.range 3)) rfl (Nat.le_of_ble_eq_true rfl) rfl ?_
    refine g_aload_n X dX8_hide_45 0 rfl rfl ?_
    refine g_get X dX8_hide_46 ck_X8 0 0 3 rfl rfl (Nat.le_of_ble_eq_true rfl) lkf_X8_13 rfl ?_
    refine g_iload_n X dX8_hide_49 1 rfl rfl ?_
    refine g_iload_n X dX8_hide_50 2 rfl rfl ?_
    obtain ⟨q1280, hq1280, hf⟩ := obind hf
    refine g_callS (gs' := [MO h0 h1 h2 h3 h4 h5 h6 h7 h8 q1279.1, AI cy 107 h2 q1280.2, AI cy 1498 h4 q1279.2]) (rest := []) X dX8_hide_51 (c_X8_hideOn l D cy ad h2 v2 x1 x2 hq1280) mf_X8_hideOn ms_X8_hideOn lkm_X8_141 ⟨(Nat.le_of_ble_eq_true rfl), (Nat.le_of_ble_eq_true rfl), (Nat.le_of_ble_eq_true rfl), (Nat.le_of_ble_eq_true rfl)⟩ [1, 0, 2] _ (by decide : [1, 0, 2].Perm (List.range 3)) rfl (by decide : [1, 0, 2].Perm (List.range 3)) rfl (Nat.le_of_ble_eq_true rfl) rfl ?_
    have hf := Option.some.inj hf
    subst hf
    exact g_iret X hr dX8_hide_54
  · have hf := oneg c1281 hf
    refine g_iconst X (0 : Int32) dX8_hide_39 (by decide) ?_
    have hf := Option.some.inj hf
    subst hf
    exact g_iret X hr dX8_hide_40
def f_X8_hide (v0 : MOv) (v2 : Fn) (v4 : Fn) (p1 : Int32) (p2 : Int32) : Option (Int32 × MOv × Fn × Fn) :=
  (f_X8_isCoins p1).bind (fun q1275 => if (b2i q1275) = 0 then f_X8_hide_b33 v0 v2 v4 p1 p2 (2 : Int32) else (f_X8_allOf p1).bind (fun q1276 => (f_X8_in (p2.toInt64) (0 : Int64) ((q1276 - (1 : Int32)).toInt64)).bind (fun q1277 => if (b2i q1277) = 0 then f_X8_hide_b33 v0 v2 v4 p1 p2 (1 : Int32) else f_X8_hide_b33 v0 v2 v4 p1 p2 (0 : Int32))))
set_option maxRecDepth 100000 in
set_option maxHeartbeats 4000000 in
theorem c_X8_hide (l : Launch) (D : va_G) (cy : Nat → ClassId) (ad : (Nat → Nat) × (Nat → Nat)) (h0 : Nat) (h1 : Nat) (h2 : Nat) (h3 : Nat) (h4 : Nat) (h5 : Nat) (h6 : Nat) (h7 : Nat) (h8 : Nat) (v0 : MOv) (v2 : Fn) (v4 : Fn) (p1 : Int32) (p2 : Int32) {q : Int32 × MOv × Fn × Fn} (hf : f_X8_hide v0 v2 v4 p1 p2 = some q) : CM l yX8_hide cX8_hide 3 (some .int) rmX8_hide D cy ad [.ref h0, .int p1, .int p2] [MO h0 h1 h2 h3 h4 h5 h6 h7 h8 v0, AI cy 107 h2 v2, AI cy 1498 h4 v4] (some (.int q.1)) [MO h0 h1 h2 h3 h4 h5 h6 h7 h8 q.2.1, AI cy 107 h2 q.2.2.1, AI cy 1498 h4 q.2.2.2] := by
  refine cm_of (lv0 := [(0, .ref h0), (1, .int p1), (2, .int p2)]) (by decide) (Nat.le_of_ble_eq_true rfl) rfl ?_
  intro p e s m args below meth c A X hr hn
  have X : gK p s m args meth c A D cy ad cX8_hide 3 RX8 := X
  unfold f_X8_hide at hf
  refine g_aload_n X dX8_hide_0 0 rfl rfl ?_
  refine g_iload_n X dX8_hide_1 1 rfl rfl ?_
  obtain ⟨q1275, hq1275, hf⟩ := obind hf
  refine g_callS (gs' := [MO h0 h1 h2 h3 h4 h5 h6 h7 h8 v0, AI cy 107 h2 v2, AI cy 1498 h4 v4]) (rest := [.ref h0]) X dX8_hide_2 (c_X8_isCoins l D cy ad p1 hq1275) mf_X8_isCoins ms_X8_isCoins lkm_X8_174 ⟨(Nat.le_of_ble_eq_true rfl), (Nat.le_of_ble_eq_true rfl), (Nat.le_of_ble_eq_true rfl), (Nat.le_of_ble_eq_true rfl)⟩ [0, 1, 2] _ (by decide : [0, 1, 2].Perm (List.range 3)) rfl (by decide : [0, 1, 2].Perm (List.range 3)) rfl (Nat.le_of_ble_eq_true rfl) rfl ?_
  refine g_if_ne X 12 dX8_hide_5 (by decide) (fun c1283 => ?_) (fun c1283 => ?_)
  · have hf := oneg c1283 hf
    refine g_iload_n X dX8_hide_12 2 rfl rfl ?_
    refine g_i2l X dX8_hide_13 ?_
    refine g_lconst X (0 : Int64) dX8_hide_14 (by decide) ?_
    refine g_iload_n X dX8_hide_15 1 rfl rfl ?_
    obtain ⟨q1276, hq1276, hf⟩ := obind hf
    refine g_callS (gs' := [MO h0 h1 h2 h3 h4 h5 h6 h7 h8 v0, AI cy 107 h2 v2, AI cy 1498 h4 v4]) (rest := [.long (0 : Int64), .long (p2.toInt64), .ref h0]) X dX8_hide_16 (c_X8_allOf l D cy ad p1 hq1276) mf_X8_allOf ms_X8_allOf lkm_X8_72 ⟨(Nat.le_of_ble_eq_true rfl), (Nat.le_of_ble_eq_true rfl), (Nat.le_of_ble_eq_true rfl), (Nat.le_of_ble_eq_true rfl)⟩ [0, 1, 2] _ (by decide : [0, 1, 2].Perm (List.range 3)) rfl (by decide : [0, 1, 2].Perm (List.range 3)) rfl (Nat.le_of_ble_eq_true rfl) rfl ?_
    refine g_iconst X (1 : Int32) dX8_hide_19 (by decide) ?_
    refine g_isub X dX8_hide_20 ?_
    refine g_i2l X dX8_hide_21 ?_
    obtain ⟨q1277, hq1277, hf⟩ := obind hf
    refine g_callS (gs' := [MO h0 h1 h2 h3 h4 h5 h6 h7 h8 v0, AI cy 107 h2 v2, AI cy 1498 h4 v4]) (rest := [.ref h0]) X dX8_hide_22 (c_X8_in l D cy ad (p2.toInt64) (0 : Int64) ((q1276 - (1 : Int32)).toInt64) hq1277) mf_X8_in ms_X8_in lkm_X8_43 ⟨(Nat.le_of_ble_eq_true rfl), (Nat.le_of_ble_eq_true rfl), (Nat.le_of_ble_eq_true rfl), (Nat.le_of_ble_eq_true rfl)⟩ [0, 1, 2] _ (by decide : [0, 1, 2].Perm (List.range 3)) rfl (by decide : [0, 1, 2].Perm (List.range 3)) rfl (Nat.le_of_ble_eq_true rfl) rfl ?_
    refine g_if_eq X 32 dX8_hide_25 (by decide) (fun c1282 => ?_) (fun c1282 => ?_)
    · have hf := opos c1282 hf
      refine g_iconst X (1 : Int32) dX8_hide_32 (by decide) ?_
      exact j_X8_hide_b33 X hr v0 v2 v4 p1 p2 (1 : Int32) hf
    · have hf := oneg c1282 hf
      refine g_iconst X (0 : Int32) dX8_hide_28 (by decide) ?_
      refine g_goto X 33 dX8_hide_29 (by decide) ?_
      exact j_X8_hide_b33 X hr v0 v2 v4 p1 p2 (0 : Int32) hf
  · have hf := opos c1283 hf
    refine g_iconst X (2 : Int32) dX8_hide_8 (by decide) ?_
    refine g_goto X 33 dX8_hide_9 (by decide) ?_
    exact j_X8_hide_b33 X hr v0 v2 v4 p1 p2 (2 : Int32) hf
abbrev rmX8_arms : Room := ({ frames := 2, cells := 0, slots := 0, locals := 46 } : Room)
def f_X8_arms_b14 (v0 : MOv) (v2 : Fn) (v4 : Fn) (x1 : Int32) (x2 : Int32) (y0 : Bool) : Option (Int32 × MOv × Fn × Fn) :=
  (f_X8_refused v0 (b2i y0)).bind (fun q1293 => if (b2i q1293.1) = 0 then (f_X8_remember q1293.2 v2 v4).bind (fun q1294 => (f_X8_armsOn v2 x1 x2).bind (fun q1295 => some (q1295.1, q1294.1, q1295.2, q1294.2))) else some ((0 : Int32), q1293.2, v2, v4))
set_option maxRecDepth 100000 in
set_option maxHeartbeats 4000000 in
theorem j_X8_arms_b14 {p : Program} {l : Launch} {e : Env} {s : State} {m : MethodId} {args : Array Value} {below : List Frame} {meth : Method} {c : Code} {A : Nat → Prop} {D : va_G} {cy : Nat → ClassId} {ad : (Nat → Nat) × (Nat → Nat)} (X : gK p s m args meth c A D cy ad cX8_arms 3 RX8) (hr : meth.sig.returnType = (some .int)) {h0 h1 h2 h3 h4 h5 h6 h7 h8 : Nat} (v0 : MOv) (v2 : Fn) (v4 : Fn) (x1 : Int32) (x2 : Int32) (y0 : Bool) {q : Int32 × MOv × Fn × Fn} (hf : f_X8_arms_b14 v0 v2 v4 x1 x2 y0 = some q) : GW p l e rmX8_arms s m args below meth c A D 3 0 0 (MQ below (cmQ D cy A (some (.int q.1)) ([MO h0 h1 h2 h3 h4 h5 h6 h7 h8 q.2.1, AI cy 107 h2 q.2.2.1, AI cy 1498 h4 q.2.2.2] : List va_W).flatten) args s 0 0 A) 14 [(0, .ref h0), (1, .int x1), (2, .int x2)] [.int (b2i y0), .ref h0] [MO h0 h1 h2 h3 h4 h5 h6 h7 h8 v0, AI cy 107 h2 v2, AI cy 1498 h4 v4] := by
  unfold f_X8_arms_b14 at hf
  obtain ⟨q1293, hq1293, hf⟩ := obind hf
  refine g_callV (gs' := [MO h0 h1 h2 h3 h4 h5 h6 h7 h8 q1293.2, AI cy 107 h2 v2, AI cy 1498 h4 v4]) (rest := []) X dX8_arms_14 (c_X8_refused l D cy ad h0 h1 h2 h3 h4 h5 h6 h7 h8 v0 (b2i y0) hq1293) mf_X8_refused mv_X8_refused lkm_X8_102 ⟨(Nat.le_of_ble_eq_true rfl), (Nat.le_of_ble_eq_true rfl), (Nat.le_of_ble_eq_true rfl), (Nat.le_of_ble_eq_true rfl)⟩ 0 0 rfl rfl rfl rfl [0, 1, 2] _ (by decide : [0, 1, 2].Perm (List.range 3)) rfl (by decide : [0, 1, 2].Perm (List.range 3)) rfl (Nat.le_of_ble_eq_true rfl) rfl ?_
  refine g_if_eq X 22 dX8_arms_17 (by decide) (fun c1296 => ?_) (fun c1296 => ?_)
  · have hf := opos c1296 hf
    refine g_aload_n X dX8_arms_22 0 rfl rfl ?_
    obtain ⟨q1294, hq1294, hf⟩ := obind hf
    refine g_callV (gs' := [MO h0 h1 h2 h3 h4 h5 h6 h7 h8 q1294.1, AI cy 107 h2 v2, AI cy 1498 h4 q1294.2]) (rest := []) X dX8_arms_23 (c_X8_remember l D cy ad h0 h1 h2 h3 h4 h5 h6 h7 h8 q1293.2 v2 v4 hq1294) mf_X8_remember mv_X8_remember lkm_X8_177 ⟨(Nat.le_of_ble_eq_true rfl), (Nat.le_of_ble_eq_true rfl), (Nat.le_of_ble_eq_true rfl), (Nat.le_of_ble_eq_true rfl)⟩ 0 0 rfl rfl rfl rfl [0, 1, 2] _ (by decide : [0, 1, 2].Perm (List.range 3)) rfl (by decide : [0, 1, 2].Perm (List.range 3)) rfl (Nat.le_of_ble_eq_true rfl) rfl ?_
    refine g_aload_n X dX8_arms_26 0 rfl rfl ?_
    refine g_get X dX8_arms_27 ck_X8 0 0 3 rfl rfl (Nat.le_of_ble_eq_true rfl) lkf_X8_13 rfl ?_
    refine g_iload_n X dX8_arms_30 1 rfl rfl ?_
    refine g_iload_n X dX8_arms_31 2 rfl rfl ?_
    obtain ⟨q1295, hq1295, hf⟩ := obind hf
    refine g_callS (gs' := [MO h0 h1 h2 h3 h4 h5 h6 h7 h8 q1294.1, AI cy 107 h2 q1295.2, AI cy 1498 h4 q1294.2]) (rest := []) X dX8_arms_32 (c_X8_armsOn l D cy ad h2 v2 x1 x2 hq1295) mf_X8_armsOn ms_X8_armsOn lkm_X8_138 ⟨(Nat.le_of_ble_eq_true rfl), (Nat.le_of_ble_eq_true rfl), (Nat.le_of_ble_eq_true rfl), (Nat.le_of_ble_eq_true rfl)⟩ [1, 0, 2] _ (by decide : [1, 0, 2].Perm (List.range 3)) rfl (by decide : [1, 0, 2].Perm (List.range 3)) rfl (Nat.le_of_ble_eq_true rfl) rfl ?_
    have hf := Option.some.inj hf
    subst hf
    exact g_iret X hr dX8_arms_35
  · have hf := oneg c1296 hf
    refine g_iconst X (0 : Int32) dX8_arms_20 (by decide) ?_
    have hf := Option.some.inj hf
    subst hf
    exact g_iret X hr dX8_arms_21
def f_X8_arms (v0 : MOv) (v2 : Fn) (v4 : Fn) (p1 : Int32) (p2 : Int32) : Option (Int32 × MOv × Fn × Fn) :=
  (f_X8_isArms p1 p2).bind (fun q1292 => if (b2i q1292) = 0 then f_X8_arms_b14 v0 v2 v4 p1 p2 true else f_X8_arms_b14 v0 v2 v4 p1 p2 false)
set_option maxRecDepth 100000 in
set_option maxHeartbeats 4000000 in
theorem c_X8_arms (l : Launch) (D : va_G) (cy : Nat → ClassId) (ad : (Nat → Nat) × (Nat → Nat)) (h0 : Nat) (h1 : Nat) (h2 : Nat) (h3 : Nat) (h4 : Nat) (h5 : Nat) (h6 : Nat) (h7 : Nat) (h8 : Nat) (v0 : MOv) (v2 : Fn) (v4 : Fn) (p1 : Int32) (p2 : Int32) {q : Int32 × MOv × Fn × Fn} (hf : f_X8_arms v0 v2 v4 p1 p2 = some q) : CM l yX8_arms cX8_arms 3 (some .int) rmX8_arms D cy ad [.ref h0, .int p1, .int p2] [MO h0 h1 h2 h3 h4 h5 h6 h7 h8 v0, AI cy 107 h2 v2, AI cy 1498 h4 v4] (some (.int q.1)) [MO h0 h1 h2 h3 h4 h5 h6 h7 h8 q.2.1, AI cy 107 h2 q.2.2.1, AI cy 1498 h4 q.2.2.2] := by
  refine cm_of (lv0 := [(0, .ref h0), (1, .int p1), (2, .int p2)]) (by decide) (Nat.le_of_ble_eq_true rfl) rfl ?_
  intro p e s m args below meth c A X hr hn
  have X : gK p s m args meth c A D cy ad cX8_arms 3 RX8 := X
  unfold f_X8_arms at hf
  refine g_aload_n X dX8_arms_0 0 rfl rfl ?_
  refine g_iload_n X dX8_arms_1 1 rfl rfl ?_
  refine g_iload_n X dX8_arms_2 2 rfl rfl ?_
  obtain ⟨q1292, hq1292, hf⟩ := obind hf
  refine g_callS (gs' := [MO h0 h1 h2 h3 h4 h5 h6 h7 h8 v0, AI cy 107 h2 v2, AI cy 1498 h4 v4]) (rest := [.ref h0]) X dX8_arms_3 (c_X8_isArms l D cy ad p1 p2 hq1292) mf_X8_isArms ms_X8_isArms lkm_X8_180 ⟨(Nat.le_of_ble_eq_true rfl), (Nat.le_of_ble_eq_true rfl), (Nat.le_of_ble_eq_true rfl), (Nat.le_of_ble_eq_true rfl)⟩ [0, 1, 2] _ (by decide : [0, 1, 2].Perm (List.range 3)) rfl (by decide : [0, 1, 2].Perm (List.range 3)) rfl (Nat.le_of_ble_eq_true rfl) rfl ?_
  refine g_if_eq X 13 dX8_arms_6 (by decide) (fun c1297 => ?_) (fun c1297 => ?_)
  · have hf := opos c1297 hf
    refine g_iconst X (1 : Int32) dX8_arms_13 (by decide) ?_
    exact j_X8_arms_b14 X hr v0 v2 v4 p1 p2 true hf
  · have hf := oneg c1297 hf
    refine g_iconst X (0 : Int32) dX8_arms_9 (by decide) ?_
    refine g_goto X 14 dX8_arms_10 (by decide) ?_
    exact j_X8_arms_b14 X hr v0 v2 v4 p1 p2 false hf
abbrev rmX8_weigh : Room := ({ frames := 4, cells := 0, slots := 0, locals := 93 } : Room)
def f_X8_weigh_b34 (v0 : MOv) (v2 : Fn) (v4 : Fn) (x1 : Int32) (x2 : Int32) (y0 : Int32) : Option (Int32 × MOv × Fn × Fn) :=
  (f_X8_refused v0 y0).bind (fun q1310 => if (b2i q1310.1) = 0 then (f_X8_remember q1310.2 v2 v4).bind (fun q1311 => (f_X8_weighOn v2 x1 x2).bind (fun q1312 => some (q1312.1, q1311.1, q1312.2, q1311.2))) else some ((0 : Int32), q1310.2, v2, v4))
set_option maxRecDepth 100000 in
set_option maxHeartbeats 4000000 in
theorem j_X8_weigh_b34 {p : Program} {l : Launch} {e : Env} {s : State} {m : MethodId} {args : Array Value} {below : List Frame} {meth : Method} {c : Code} {A : Nat → Prop} {D : va_G} {cy : Nat → ClassId} {ad : (Nat → Nat) × (Nat → Nat)} (X : gK p s m args meth c A D cy ad cX8_weigh 3 RX8) (hr : meth.sig.returnType = (some .int)) {h0 h1 h2 h3 h4 h5 h6 h7 h8 : Nat} (v0 : MOv) (v2 : Fn) (v4 : Fn) (x1 : Int32) (x2 : Int32) (y0 : Int32) {q : Int32 × MOv × Fn × Fn} (hf : f_X8_weigh_b34 v0 v2 v4 x1 x2 y0 = some q) : GW p l e rmX8_weigh s m args below meth c A D 3 0 0 (MQ below (cmQ D cy A (some (.int q.1)) ([MO h0 h1 h2 h3 h4 h5 h6 h7 h8 q.2.1, AI cy 107 h2 q.2.2.1, AI cy 1498 h4 q.2.2.2] : List va_W).flatten) args s 0 0 A) 34 [(0, .ref h0), (1, .int x1), (2, .int x2)] [.int y0, .ref h0] [MO h0 h1 h2 h3 h4 h5 h6 h7 h8 v0, AI cy 107 h2 v2, AI cy 1498 h4 v4] := by
  unfold f_X8_weigh_b34 at hf
  obtain ⟨q1310, hq1310, hf⟩ := obind hf
  refine g_callV (gs' := [MO h0 h1 h2 h3 h4 h5 h6 h7 h8 q1310.2, AI cy 107 h2 v2, AI cy 1498 h4 v4]) (rest := []) X dX8_weigh_34 (c_X8_refused l D cy ad h0 h1 h2 h3 h4 h5 h6 h7 h8 v0 y0 hq1310) mf_X8_refused mv_X8_refused lkm_X8_102 ⟨(Nat.le_of_ble_eq_true rfl), (Nat.le_of_ble_eq_true rfl), (Nat.le_of_ble_eq_true rfl), (Nat.le_of_ble_eq_true rfl)⟩ 0 0 rfl rfl rfl rfl [0, 1, 2] _ (by decide : [0, 1, 2].Perm (List.range 3)) rfl (by decide : [0, 1, 2].Perm (List.range 3)) rfl (Nat.le_of_ble_eq_true rfl) rfl ?_
  refine g_if_eq X 42 dX8_weigh_37 (by decide) (fun c1313 => ?_) (fun c1313 => ?_)
  · have hf := opos c1313 hf
    refine g_aload_n X dX8_weigh_42 0 rfl rfl ?_
    obtain ⟨q1311, hq1311, hf⟩ := obind hf
    refine g_callV (gs' := [MO h0 h1 h2 h3 h4 h5 h6 h7 h8 q1311.1, AI cy 107 h2 v2, AI cy 1498 h4 q1311.2]) (rest := []) X dX8_weigh_43 (c_X8_remember l D cy ad h0 h1 h2 h3 h4 h5 h6 h7 h8 q1310.2 v2 v4 hq1311) mf_X8_remember mv_X8_remember lkm_X8_177 ⟨(Nat.le_of_ble_eq_true rfl), (Nat.le_of_ble_eq_true rfl), (Nat.le_of_ble_eq_true rfl), (Nat.le_of_ble_eq_true rfl)⟩ 0 0 rfl rfl rfl rfl [0, 1, 2] _ (by decide : [0, 1, 2].Perm (List.range 3)) rfl (by decide : [0, 1, 2].Perm (List.range 3)) rfl (Nat.le_of_ble_eq_true rfl) rfl ?_
    refine g_aload_n X dX8_weigh_46 0 rfl rfl ?_
    refine g_get X dX8_weigh_47 ck_X8 0 0 3 rfl rfl (Nat.le_of_ble_eq_true rfl) lkf_X8_13 rfl ?_
    refine g_iload_n X dX8_weigh_50 1 rfl rfl ?_
    refine g_iload_n X dX8_weigh_51 2 rfl rfl ?_
    obtain ⟨q1312, hq1312, hf⟩ := obind hf
    refine g_callS (gs' := [MO h0 h1 h2 h3 h4 h5 h6 h7 h8 q1311.1, AI cy 107 h2 q1312.2, AI cy 1498 h4 q1311.2]) (rest := []) X dX8_weigh_52 (c_X8_weighOn l D cy ad h2 v2 x1 x2 hq1312) mf_X8_weighOn ms_X8_weighOn lkm_X8_126 ⟨(Nat.le_of_ble_eq_true rfl), (Nat.le_of_ble_eq_true rfl), (Nat.le_of_ble_eq_true rfl), (Nat.le_of_ble_eq_true rfl)⟩ [1, 0, 2] _ (by decide : [1, 0, 2].Perm (List.range 3)) rfl (by decide : [1, 0, 2].Perm (List.range 3)) rfl (Nat.le_of_ble_eq_true rfl) rfl ?_
    have hf := Option.some.inj hf
    subst hf
    exact g_iret X hr dX8_weigh_55
  · have hf := oneg c1313 hf
    refine g_iconst X (0 : Int32) dX8_weigh_40 (by decide) ?_
    have hf := Option.some.inj hf
    subst hf
    exact g_iret X hr dX8_weigh_41
def f_X8_weigh (v0 : MOv) (v2 : Fn) (v4 : Fn) (p1 : Int32) (p2 : Int32) : Option (Int32 × MOv × Fn × Fn) :=
  (f_X8_isWeighing v2 p1 p2).bind (fun q1308 => if (b2i q1308) = 0 then f_X8_weigh_b34 v0 v2 v4 p1 p2 (1 : Int32) else (f_X8_canWeigh v2 p1 p2).bind (fun q1309 => if (b2i q1309) = 0 then f_X8_weigh_b34 v0 v2 v4 p1 p2 (2 : Int32) else f_X8_weigh_b34 v0 v2 v4 p1 p2 (0 : Int32)))
set_option maxRecDepth 100000 in
set_option maxHeartbeats 4000000 in
theorem c_X8_weigh (l : Launch) (D : va_G) (cy : Nat → ClassId) (ad : (Nat → Nat) × (Nat → Nat)) (h0 : Nat) (h1 : Nat) (h2 : Nat) (h3 : Nat) (h4 : Nat) (h5 : Nat) (h6 : Nat) (h7 : Nat) (h8 : Nat) (v0 : MOv) (v2 : Fn) (v4 : Fn) (p1 : Int32) (p2 : Int32) {q : Int32 × MOv × Fn × Fn} (hf : f_X8_weigh v0 v2 v4 p1 p2 = some q) : CM l yX8_weigh cX8_weigh 3 (some .int) rmX8_weigh D cy ad [.ref h0, .int p1, .int p2] [MO h0 h1 h2 h3 h4 h5 h6 h7 h8 v0, AI cy 107 h2 v2, AI cy 1498 h4 v4] (some (.int q.1)) [MO h0 h1 h2 h3 h4 h5 h6 h7 h8 q.2.1, AI cy 107 h2 q.2.2.1, AI cy 1498 h4 q.2.2.2] := by
  refine cm_of (lv0 := [(0, .ref h0), (1, .int p1), (2, .int p2)]) (by decide) (Nat.le_of_ble_eq_true rfl) rfl ?_
  intro p e s m args below meth c A X hr hn
  have X : gK p s m args meth c A D cy ad cX8_weigh 3 RX8 := X
  unfold f_X8_weigh at hf
  refine g_aload_n X dX8_weigh_0 0 rfl rfl ?_
  refine g_aload_n X dX8_weigh_1 0 rfl rfl ?_
  refine g_get X dX8_weigh_2 ck_X8 0 0 3 rfl rfl (Nat.le_of_ble_eq_true rfl) lkf_X8_13 rfl ?_
  refine g_iload_n X dX8_weigh_5 1 rfl rfl ?_
  refine g_iload_n X dX8_weigh_6 2 rfl rfl ?_
  obtain ⟨q1308, hq1308, hf⟩ := obind hf
  refine g_callS (gs' := [MO h0 h1 h2 h3 h4 h5 h6 h7 h8 v0, AI cy 107 h2 v2, AI cy 1498 h4 v4]) (rest := [.ref h0]) X dX8_weigh_7 (c_X8_isWeighing l D cy ad h2 v2 p1 p2 hq1308) mf_X8_isWeighing ms_X8_isWeighing lkm_X8_90 ⟨(Nat.le_of_ble_eq_true rfl), (Nat.le_of_ble_eq_true rfl), (Nat.le_of_ble_eq_true rfl), (Nat.le_of_ble_eq_true rfl)⟩ [1, 0, 2] _ (by decide : [1, 0, 2].Perm (List.range 3)) rfl (by decide : [1, 0, 2].Perm (List.range 3)) rfl (Nat.le_of_ble_eq_true rfl) rfl ?_
  refine g_if_ne X 17 dX8_weigh_10 (by decide) (fun c1315 => ?_) (fun c1315 => ?_)
  · have hf := oneg c1315 hf
    refine g_aload_n X dX8_weigh_17 0 rfl rfl ?_
    refine g_get X dX8_weigh_18 ck_X8 0 0 3 rfl rfl (Nat.le_of_ble_eq_true rfl) lkf_X8_13 rfl ?_
    refine g_iload_n X dX8_weigh_21 1 rfl rfl ?_
    refine g_iload_n X dX8_weigh_22 2 rfl rfl ?_
    obtain ⟨q1309, hq1309, hf⟩ := obind hf
    refine g_callS (gs' := [MO h0 h1 h2 h3 h4 h5 h6 h7 h8 v0, AI cy 107 h2 v2, AI cy 1498 h4 v4]) (rest := [.ref h0]) X dX8_weigh_23 (c_X8_canWeigh l D cy ad h2 v2 p1 p2 hq1309) mf_X8_canWeigh ms_X8_canWeigh lkm_X8_123 ⟨(Nat.le_of_ble_eq_true rfl), (Nat.le_of_ble_eq_true rfl), (Nat.le_of_ble_eq_true rfl), (Nat.le_of_ble_eq_true rfl)⟩ [1, 0, 2] _ (by decide : [1, 0, 2].Perm (List.range 3)) rfl (by decide : [1, 0, 2].Perm (List.range 3)) rfl (Nat.le_of_ble_eq_true rfl) rfl ?_
    refine g_if_eq X 33 dX8_weigh_26 (by decide) (fun c1314 => ?_) (fun c1314 => ?_)
    · have hf := opos c1314 hf
      refine g_iconst X (2 : Int32) dX8_weigh_33 (by decide) ?_
      exact j_X8_weigh_b34 X hr v0 v2 v4 p1 p2 (2 : Int32) hf
    · have hf := oneg c1314 hf
      refine g_iconst X (0 : Int32) dX8_weigh_29 (by decide) ?_
      refine g_goto X 34 dX8_weigh_30 (by decide) ?_
      exact j_X8_weigh_b34 X hr v0 v2 v4 p1 p2 (0 : Int32) hf
  · have hf := opos c1315 hf
    refine g_iconst X (1 : Int32) dX8_weigh_13 (by decide) ?_
    refine g_goto X 34 dX8_weigh_14 (by decide) ?_
    exact j_X8_weigh_b34 X hr v0 v2 v4 p1 p2 (1 : Int32) hf
abbrev rmX8_accuse : Room := ({ frames := 2, cells := 0, slots := 0, locals := 46 } : Room)
def f_X8_accuse_b17 (v0 : MOv) (v2 : Fn) (v4 : Fn) (x1 : Int32) (x2 : Bool) (y0 : Bool) : Option (Int32 × MOv × Fn × Fn) :=
  (f_X8_refused v0 (b2i y0)).bind (fun q1325 => if (b2i q1325.1) = 0 then (f_X8_remember q1325.2 v2 v4).bind (fun q1326 => (f_X8_accuseOn v2 x1 x2).bind (fun q1327 => some (q1327.1, q1326.1, q1327.2, q1326.2))) else some ((0 : Int32), q1325.2, v2, v4))
set_option maxRecDepth 100000 in
set_option maxHeartbeats 4000000 in
theorem j_X8_accuse_b17 {p : Program} {l : Launch} {e : Env} {s : State} {m : MethodId} {args : Array Value} {below : List Frame} {meth : Method} {c : Code} {A : Nat → Prop} {D : va_G} {cy : Nat → ClassId} {ad : (Nat → Nat) × (Nat → Nat)} (X : gK p s m args meth c A D cy ad cX8_accuse 3 RX8) (hr : meth.sig.returnType = (some .int)) {h0 h1 h2 h3 h4 h5 h6 h7 h8 : Nat} (v0 : MOv) (v2 : Fn) (v4 : Fn) (x1 : Int32) (x2 : Bool) (y0 : Bool) {q : Int32 × MOv × Fn × Fn} (hf : f_X8_accuse_b17 v0 v2 v4 x1 x2 y0 = some q) : GW p l e rmX8_accuse s m args below meth c A D 3 0 0 (MQ below (cmQ D cy A (some (.int q.1)) ([MO h0 h1 h2 h3 h4 h5 h6 h7 h8 q.2.1, AI cy 107 h2 q.2.2.1, AI cy 1498 h4 q.2.2.2] : List va_W).flatten) args s 0 0 A) 17 [(0, .ref h0), (1, .int x1), (2, .int (b2i x2))] [.int (b2i y0), .ref h0] [MO h0 h1 h2 h3 h4 h5 h6 h7 h8 v0, AI cy 107 h2 v2, AI cy 1498 h4 v4] := by
  unfold f_X8_accuse_b17 at hf
  obtain ⟨q1325, hq1325, hf⟩ := obind hf
  refine g_callV (gs' := [MO h0 h1 h2 h3 h4 h5 h6 h7 h8 q1325.2, AI cy 107 h2 v2, AI cy 1498 h4 v4]) (rest := []) X dX8_accuse_17 (c_X8_refused l D cy ad h0 h1 h2 h3 h4 h5 h6 h7 h8 v0 (b2i y0) hq1325) mf_X8_refused mv_X8_refused lkm_X8_102 ⟨(Nat.le_of_ble_eq_true rfl), (Nat.le_of_ble_eq_true rfl), (Nat.le_of_ble_eq_true rfl), (Nat.le_of_ble_eq_true rfl)⟩ 0 0 rfl rfl rfl rfl [0, 1, 2] _ (by decide : [0, 1, 2].Perm (List.range 3)) rfl (by decide : [0, 1, 2].Perm (List.range 3)) rfl (Nat.le_of_ble_eq_true rfl) rfl ?_
  refine g_if_eq X 25 dX8_accuse_20 (by decide) (fun c1328 => ?_) (fun c1328 => ?_)
  · have hf := opos c1328 hf
    refine g_aload_n X dX8_accuse_25 0 rfl rfl ?_
    obtain ⟨q1326, hq1326, hf⟩ := obind hf
    refine g_callV (gs' := [MO h0 h1 h2 h3 h4 h5 h6 h7 h8 q1326.1, AI cy 107 h2 v2, AI cy 1498 h4 q1326.2]) (rest := []) X dX8_accuse_26 (c_X8_remember l D cy ad h0 h1 h2 h3 h4 h5 h6 h7 h8 q1325.2 v2 v4 hq1326) mf_X8_remember mv_X8_remember lkm_X8_177 ⟨(Nat.le_of_ble_eq_true rfl), (Nat.le_of_ble_eq_true rfl), (Nat.le_of_ble_eq_true rfl), (Nat.le_of_ble_eq_true rfl)⟩ 0 0 rfl rfl rfl rfl [0, 1, 2] _ (by decide : [0, 1, 2].Perm (List.range 3)) rfl (by decide : [0, 1, 2].Perm (List.range 3)) rfl (Nat.le_of_ble_eq_true rfl) rfl ?_
    refine g_aload_n X dX8_accuse_29 0 rfl rfl ?_
    refine g_get X dX8_accuse_30 ck_X8 0 0 3 rfl rfl (Nat.le_of_ble_eq_true rfl) lkf_X8_13 rfl ?_
    refine g_iload_n X dX8_accuse_33 1 rfl rfl ?_
    refine g_iload_n X dX8_accuse_34 2 rfl rfl ?_
    obtain ⟨q1327, hq1327, hf⟩ := obind hf
    refine g_callS (gs' := [MO h0 h1 h2 h3 h4 h5 h6 h7 h8 q1326.1, AI cy 107 h2 q1327.2, AI cy 1498 h4 q1326.2]) (rest := []) X dX8_accuse_35 (c_X8_accuseOn l D cy ad h2 v2 x1 x2 hq1327) mf_X8_accuseOn ms_X8_accuseOn lkm_X8_184 ⟨(Nat.le_of_ble_eq_true rfl), (Nat.le_of_ble_eq_true rfl), (Nat.le_of_ble_eq_true rfl), (Nat.le_of_ble_eq_true rfl)⟩ [1, 0, 2] _ (by decide : [1, 0, 2].Perm (List.range 3)) rfl (by decide : [1, 0, 2].Perm (List.range 3)) rfl (Nat.le_of_ble_eq_true rfl) rfl ?_
    have hf := Option.some.inj hf
    subst hf
    exact g_iret X hr dX8_accuse_38
  · have hf := oneg c1328 hf
    refine g_iconst X (0 : Int32) dX8_accuse_23 (by decide) ?_
    have hf := Option.some.inj hf
    subst hf
    exact g_iret X hr dX8_accuse_24
def f_X8_accuse (v0 : MOv) (v2 : Fn) (v4 : Fn) (p1 : Int32) (p2 : Bool) : Option (Int32 × MOv × Fn × Fn) :=
  (f_X8_isCoin v2 p1).bind (fun q1324 => if (b2i q1324) = 0 then f_X8_accuse_b17 v0 v2 v4 p1 p2 true else f_X8_accuse_b17 v0 v2 v4 p1 p2 false)
set_option maxRecDepth 100000 in
set_option maxHeartbeats 4000000 in
theorem c_X8_accuse (l : Launch) (D : va_G) (cy : Nat → ClassId) (ad : (Nat → Nat) × (Nat → Nat)) (h0 : Nat) (h1 : Nat) (h2 : Nat) (h3 : Nat) (h4 : Nat) (h5 : Nat) (h6 : Nat) (h7 : Nat) (h8 : Nat) (v0 : MOv) (v2 : Fn) (v4 : Fn) (p1 : Int32) (p2 : Bool) {q : Int32 × MOv × Fn × Fn} (hf : f_X8_accuse v0 v2 v4 p1 p2 = some q) : CM l yX8_accuse cX8_accuse 3 (some .int) rmX8_accuse D cy ad [.ref h0, .int p1, .int (b2i p2)] [MO h0 h1 h2 h3 h4 h5 h6 h7 h8 v0, AI cy 107 h2 v2, AI cy 1498 h4 v4] (some (.int q.1)) [MO h0 h1 h2 h3 h4 h5 h6 h7 h8 q.2.1, AI cy 107 h2 q.2.2.1, AI cy 1498 h4 q.2.2.2] := by
  refine cm_of (lv0 := [(0, .ref h0), (1, .int p1), (2, .int (b2i p2))]) (by decide) (Nat.le_of_ble_eq_true rfl) rfl ?_
  intro p e s m args below meth c A X hr hn
  have X : gK p s m args meth c A D cy ad cX8_accuse 3 RX8 := X
  unfold f_X8_accuse at hf
  refine g_aload_n X dX8_accuse_0 0 rfl rfl ?_
  refine g_aload_n X dX8_accuse_1 0 rfl rfl ?_
  refine g_get X dX8_accuse_2 ck_X8 0 0 3 rfl rfl (Nat.le_of_ble_eq_true rfl) lkf_X8_13 rfl ?_
  refine g_iload_n X dX8_accuse_5 1 rfl rfl ?_
  obtain ⟨q1324, hq1324, hf⟩ := obind hf
  refine g_callS (gs' := [MO h0 h1 h2 h3 h4 h5 h6 h7 h8 v0, AI cy 107 h2 v2, AI cy 1498 h4 v4]) (rest := [.ref h0]) X dX8_accuse_6 (c_X8_isCoin l D cy ad h2 v2 p1 hq1324) mf_X8_isCoin ms_X8_isCoin lkm_X8_163 ⟨(Nat.le_of_ble_eq_true rfl), (Nat.le_of_ble_eq_true rfl), (Nat.le_of_ble_eq_true rfl), (Nat.le_of_ble_eq_true rfl)⟩ [1, 0, 2] _ (by decide : [1, 0, 2].Perm (List.range 3)) rfl (by decide : [1, 0, 2].Perm (List.range 3)) rfl (Nat.le_of_ble_eq_true rfl) rfl ?_
  refine g_if_eq X 16 dX8_accuse_9 (by decide) (fun c1329 => ?_) (fun c1329 => ?_)
  · have hf := opos c1329 hf
    refine g_iconst X (1 : Int32) dX8_accuse_16 (by decide) ?_
    exact j_X8_accuse_b17 X hr v0 v2 v4 p1 p2 true hf
  · have hf := oneg c1329 hf
    refine g_iconst X (0 : Int32) dX8_accuse_12 (by decide) ?_
    refine g_goto X 17 dX8_accuse_13 (by decide) ?_
    exact j_X8_accuse_b17 X hr v0 v2 v4 p1 p2 false hf
abbrev rmX8_accusePan : Room := ({ frames := 2, cells := 0, slots := 0, locals := 45 } : Room)
def f_X8_accusePan_b51 (v0 : MOv) (v2 : Fn) (v4 : Fn) (y0 : Bool) : Option (Int32 × MOv × Fn × Fn) :=
  (f_X8_told v2 y0).bind (fun q1341 => some (q1341.1, v0, q1341.2, v4))
set_option maxRecDepth 100000 in
set_option maxHeartbeats 4000000 in
theorem j_X8_accusePan_b51 {p : Program} {l : Launch} {e : Env} {s : State} {m : MethodId} {args : Array Value} {below : List Frame} {meth : Method} {c : Code} {A : Nat → Prop} {D : va_G} {cy : Nat → ClassId} {ad : (Nat → Nat) × (Nat → Nat)} (X : gK p s m args meth c A D cy ad cX8_accusePan 2 RX8) (hr : meth.sig.returnType = (some .int)) {h0 h1 h2 h3 h4 h5 h6 h7 h8 : Nat} (v0 : MOv) (v2 : Fn) (v4 : Fn) (y0 : Bool) {q : Int32 × MOv × Fn × Fn} (hf : f_X8_accusePan_b51 v0 v2 v4 y0 = some q) : GW p l e rmX8_accusePan s m args below meth c A D 2 0 0 (MQ below (cmQ D cy A (some (.int q.1)) ([MO h0 h1 h2 h3 h4 h5 h6 h7 h8 q.2.1, AI cy 107 h2 q.2.2.1, AI cy 1498 h4 q.2.2.2] : List va_W).flatten) args s 0 0 A) 51 [] [.int (b2i y0), .ref h2] [MO h0 h1 h2 h3 h4 h5 h6 h7 h8 v0, AI cy 107 h2 v2, AI cy 1498 h4 v4] := by
  unfold f_X8_accusePan_b51 at hf
  obtain ⟨q1341, hq1341, hf⟩ := obind hf
  refine g_callS (gs' := [MO h0 h1 h2 h3 h4 h5 h6 h7 h8 v0, AI cy 107 h2 q1341.2, AI cy 1498 h4 v4]) (rest := []) X dX8_accusePan_51 (c_X8_told l D cy ad h2 v2 y0 hq1341) mf_X8_told ms_X8_told lkm_X8_93 ⟨(Nat.le_of_ble_eq_true rfl), (Nat.le_of_ble_eq_true rfl), (Nat.le_of_ble_eq_true rfl), (Nat.le_of_ble_eq_true rfl)⟩ [1, 0, 2] _ (by decide : [1, 0, 2].Perm (List.range 3)) rfl (by decide : [1, 0, 2].Perm (List.range 3)) rfl (Nat.le_of_ble_eq_true rfl) rfl ?_
  have hf := Option.some.inj hf
  subst hf
  exact g_iret X hr dX8_accusePan_54
def f_X8_accusePan_b18 (v0 : MOv) (v2 : Fn) (v4 : Fn) (x1 : Int32) (y0 : Bool) : Option (Int32 × MOv × Fn × Fn) :=
  (f_X8_refused v0 (b2i y0)).bind (fun q1339 => if (b2i q1339.1) = 0 then (f_X8_remember q1339.2 v2 v4).bind (fun q1340 => if ((v2 (1 : Int32).toNatClampNeg) - (v2 (1 : Int32).toNatClampNeg) / (3 : Int32) * (3 : Int32)) = x1 then f_X8_accusePan_b51 q1340.1 v2 q1340.2 true else f_X8_accusePan_b51 q1340.1 v2 q1340.2 false) else some ((0 : Int32), q1339.2, v2, v4))
set_option maxRecDepth 100000 in
set_option maxHeartbeats 4000000 in
theorem j_X8_accusePan_b18 {p : Program} {l : Launch} {e : Env} {s : State} {m : MethodId} {args : Array Value} {below : List Frame} {meth : Method} {c : Code} {A : Nat → Prop} {D : va_G} {cy : Nat → ClassId} {ad : (Nat → Nat) × (Nat → Nat)} (X : gK p s m args meth c A D cy ad cX8_accusePan 2 RX8) (hr : meth.sig.returnType = (some .int)) {h0 h1 h2 h3 h4 h5 h6 h7 h8 : Nat} (v0 : MOv) (v2 : Fn) (v4 : Fn) (x1 : Int32) (y0 : Bool) {q : Int32 × MOv × Fn × Fn} (hf : f_X8_accusePan_b18 v0 v2 v4 x1 y0 = some q) : GW p l e rmX8_accusePan s m args below meth c A D 2 0 0 (MQ below (cmQ D cy A (some (.int q.1)) ([MO h0 h1 h2 h3 h4 h5 h6 h7 h8 q.2.1, AI cy 107 h2 q.2.2.1, AI cy 1498 h4 q.2.2.2] : List va_W).flatten) args s 0 0 A) 18 [(0, .ref h0), (1, .int x1)] [.int (b2i y0), .ref h0] [MO h0 h1 h2 h3 h4 h5 h6 h7 h8 v0, AI cy 107 h2 v2, AI cy 1498 h4 v4] := by
  unfold f_X8_accusePan_b18 at hf
  obtain ⟨q1339, hq1339, hf⟩ := obind hf
  refine g_callV (gs' := [MO h0 h1 h2 h3 h4 h5 h6 h7 h8 q1339.2, AI cy 107 h2 v2, AI cy 1498 h4 v4]) (rest := []) X dX8_accusePan_18 (c_X8_refused l D cy ad h0 h1 h2 h3 h4 h5 h6 h7 h8 v0 (b2i y0) hq1339) mf_X8_refused mv_X8_refused lkm_X8_102 ⟨(Nat.le_of_ble_eq_true rfl), (Nat.le_of_ble_eq_true rfl), (Nat.le_of_ble_eq_true rfl), (Nat.le_of_ble_eq_true rfl)⟩ 0 0 rfl rfl rfl rfl [0, 1, 2] _ (by decide : [0, 1, 2].Perm (List.range 3)) rfl (by decide : [0, 1, 2].Perm (List.range 3)) rfl (Nat.le_of_ble_eq_true rfl) rfl ?_
  refine g_if_eq X 26 dX8_accusePan_21 (by decide) (fun c1343 => ?_) (fun c1343 => ?_)
  · have hf := opos c1343 hf
    refine g_aload_n X dX8_accusePan_26 0 rfl rfl ?_
    obtain ⟨q1340, hq1340, hf⟩ := obind hf
    refine g_callV (gs' := [MO h0 h1 h2 h3 h4 h5 h6 h7 h8 q1340.1, AI cy 107 h2 v2, AI cy 1498 h4 q1340.2]) (rest := []) X dX8_accusePan_27 (c_X8_remember l D cy ad h0 h1 h2 h3 h4 h5 h6 h7 h8 q1339.2 v2 v4 hq1340) mf_X8_remember mv_X8_remember lkm_X8_177 ⟨(Nat.le_of_ble_eq_true rfl), (Nat.le_of_ble_eq_true rfl), (Nat.le_of_ble_eq_true rfl), (Nat.le_of_ble_eq_true rfl)⟩ 0 0 rfl rfl rfl rfl [0, 1, 2] _ (by decide : [0, 1, 2].Perm (List.range 3)) rfl (by decide : [0, 1, 2].Perm (List.range 3)) rfl (Nat.le_of_ble_eq_true rfl) rfl ?_
    refine g_aload_n X dX8_accusePan_30 0 rfl rfl ?_
    refine g_get X dX8_accusePan_31 ck_X8 0 0 3 rfl rfl (Nat.le_of_ble_eq_true rfl) lkf_X8_13 rfl ?_
    refine g_aload_n X dX8_accusePan_34 0 rfl rfl ?_
    refine g_get X dX8_accusePan_35 ck_X8 0 0 3 rfl rfl (Nat.le_of_ble_eq_true rfl) lkf_X8_13 rfl ?_
    refine g_iconst X (1 : Int32) dX8_accusePan_38 (by decide) ?_
    refine g_iaload X dX8_accusePan_39 1 0 rfl rfl (by decide) ?_
    refine g_iconst X (3 : Int32) dX8_accusePan_40 (by decide) ?_
    refine g_irem X dX8_accusePan_41 (by decide) ?_
    refine g_iload_n X dX8_accusePan_42 1 rfl rfl ?_
    refine g_icmp_ne X 50 dX8_accusePan_43 (by decide) (fun c1342 => ?_) (fun c1342 => ?_)
    · have hf := oneg c1342 hf
      refine g_iconst X (0 : Int32) dX8_accusePan_50 (by decide) ?_
      refine g_sub [] (lv' := []) rfl ?_
      exact j_X8_accusePan_b51 X hr q1340.1 v2 q1340.2 false hf
    · have hf := opos c1342 hf
      refine g_iconst X (1 : Int32) dX8_accusePan_46 (by decide) ?_
      refine g_goto X 51 dX8_accusePan_47 (by decide) ?_
      refine g_sub [] (lv' := []) rfl ?_
      exact j_X8_accusePan_b51 X hr q1340.1 v2 q1340.2 true hf
  · have hf := oneg c1343 hf
    refine g_iconst X (0 : Int32) dX8_accusePan_24 (by decide) ?_
    have hf := Option.some.inj hf
    subst hf
    exact g_iret X hr dX8_accusePan_25
def f_X8_accusePan (v0 : MOv) (v2 : Fn) (v4 : Fn) (p1 : Int32) : Option (Int32 × MOv × Fn × Fn) :=
  (f_X8_in (p1.toInt64) (0 : Int64) (2 : Int64)).bind (fun q1338 => if (b2i q1338) = 0 then f_X8_accusePan_b18 v0 v2 v4 p1 true else f_X8_accusePan_b18 v0 v2 v4 p1 false)
set_option maxRecDepth 100000 in
set_option maxHeartbeats 4000000 in
theorem c_X8_accusePan (l : Launch) (D : va_G) (cy : Nat → ClassId) (ad : (Nat → Nat) × (Nat → Nat)) (h0 : Nat) (h1 : Nat) (h2 : Nat) (h3 : Nat) (h4 : Nat) (h5 : Nat) (h6 : Nat) (h7 : Nat) (h8 : Nat) (v0 : MOv) (v2 : Fn) (v4 : Fn) (p1 : Int32) {q : Int32 × MOv × Fn × Fn} (hf : f_X8_accusePan v0 v2 v4 p1 = some q) : CM l yX8_accusePan cX8_accusePan 2 (some .int) rmX8_accusePan D cy ad [.ref h0, .int p1] [MO h0 h1 h2 h3 h4 h5 h6 h7 h8 v0, AI cy 107 h2 v2, AI cy 1498 h4 v4] (some (.int q.1)) [MO h0 h1 h2 h3 h4 h5 h6 h7 h8 q.2.1, AI cy 107 h2 q.2.2.1, AI cy 1498 h4 q.2.2.2] := by
  refine cm_of (lv0 := [(0, .ref h0), (1, .int p1)]) (by decide) (Nat.le_of_ble_eq_true rfl) rfl ?_
  intro p e s m args below meth c A X hr hn
  have X : gK p s m args meth c A D cy ad cX8_accusePan 2 RX8 := X
  unfold f_X8_accusePan at hf
  refine g_aload_n X dX8_accusePan_0 0 rfl rfl ?_
  refine g_iload_n X dX8_accusePan_1 1 rfl rfl ?_
  refine g_i2l X dX8_accusePan_2 ?_
  refine g_lconst X (0 : Int64) dX8_accusePan_3 (by decide) ?_
  refine g_ldc2 X lkl_X8_188 dX8_accusePan_4 ?_
  obtain ⟨q1338, hq1338, hf⟩ := obind hf
  refine g_callS (gs' := [MO h0 h1 h2 h3 h4 h5 h6 h7 h8 v0, AI cy 107 h2 v2, AI cy 1498 h4 v4]) (rest := [.ref h0]) X dX8_accusePan_7 (c_X8_in l D cy ad (p1.toInt64) (0 : Int64) (2 : Int64) hq1338) mf_X8_in ms_X8_in lkm_X8_43 ⟨(Nat.le_of_ble_eq_true rfl), (Nat.le_of_ble_eq_true rfl), (Nat.le_of_ble_eq_true rfl), (Nat.le_of_ble_eq_true rfl)⟩ [0, 1, 2] _ (by decide : [0, 1, 2].Perm (List.range 3)) rfl (by decide : [0, 1, 2].Perm (List.range 3)) rfl (Nat.le_of_ble_eq_true rfl) rfl ?_
  refine g_if_eq X 17 dX8_accusePan_10 (by decide) (fun c1344 => ?_) (fun c1344 => ?_)
  · have hf := opos c1344 hf
    refine g_iconst X (1 : Int32) dX8_accusePan_17 (by decide) ?_
    exact j_X8_accusePan_b18 X hr v0 v2 v4 p1 true hf
  · have hf := oneg c1344 hf
    refine g_iconst X (0 : Int32) dX8_accusePan_13 (by decide) ?_
    refine g_goto X 18 dX8_accusePan_14 (by decide) ?_
    exact j_X8_accusePan_b18 X hr v0 v2 v4 p1 false hf
abbrev rmX8_forget : Room := ({ frames := 2, cells := 0, slots := 0, locals := 45 } : Room)
def f_X8_forget_b15 (v0 : MOv) (v2 : Fn) (v4 : Fn) (y0 : Bool) : Option (Int32 × MOv × Fn × Fn) :=
  (f_X8_refused v0 (b2i y0)).bind (fun q1351 => if (b2i q1351.1) = 0 then (f_X8_remember q1351.2 v2 v4).bind (fun q1352 => (f_X8_forgetOn v2).bind (fun q1353 => some (q1353.1, q1352.1, q1353.2, q1352.2))) else some ((0 : Int32), q1351.2, v2, v4))
set_option maxRecDepth 100000 in
set_option maxHeartbeats 4000000 in
theorem j_X8_forget_b15 {p : Program} {l : Launch} {e : Env} {s : State} {m : MethodId} {args : Array Value} {below : List Frame} {meth : Method} {c : Code} {A : Nat → Prop} {D : va_G} {cy : Nat → ClassId} {ad : (Nat → Nat) × (Nat → Nat)} (X : gK p s m args meth c A D cy ad cX8_forget 1 RX8) (hr : meth.sig.returnType = (some .int)) {h0 h1 h2 h3 h4 h5 h6 h7 h8 : Nat} (v0 : MOv) (v2 : Fn) (v4 : Fn) (y0 : Bool) {q : Int32 × MOv × Fn × Fn} (hf : f_X8_forget_b15 v0 v2 v4 y0 = some q) : GW p l e rmX8_forget s m args below meth c A D 1 0 0 (MQ below (cmQ D cy A (some (.int q.1)) ([MO h0 h1 h2 h3 h4 h5 h6 h7 h8 q.2.1, AI cy 107 h2 q.2.2.1, AI cy 1498 h4 q.2.2.2] : List va_W).flatten) args s 0 0 A) 15 [(0, .ref h0)] [.int (b2i y0), .ref h0] [MO h0 h1 h2 h3 h4 h5 h6 h7 h8 v0, AI cy 107 h2 v2, AI cy 1498 h4 v4] := by
  unfold f_X8_forget_b15 at hf
  obtain ⟨q1351, hq1351, hf⟩ := obind hf
  refine g_callV (gs' := [MO h0 h1 h2 h3 h4 h5 h6 h7 h8 q1351.2, AI cy 107 h2 v2, AI cy 1498 h4 v4]) (rest := []) X dX8_forget_15 (c_X8_refused l D cy ad h0 h1 h2 h3 h4 h5 h6 h7 h8 v0 (b2i y0) hq1351) mf_X8_refused mv_X8_refused lkm_X8_102 ⟨(Nat.le_of_ble_eq_true rfl), (Nat.le_of_ble_eq_true rfl), (Nat.le_of_ble_eq_true rfl), (Nat.le_of_ble_eq_true rfl)⟩ 0 0 rfl rfl rfl rfl [0, 1, 2] _ (by decide : [0, 1, 2].Perm (List.range 3)) rfl (by decide : [0, 1, 2].Perm (List.range 3)) rfl (Nat.le_of_ble_eq_true rfl) rfl ?_
  refine g_if_eq X 23 dX8_forget_18 (by decide) (fun c1354 => ?_) (fun c1354 => ?_)
  · have hf := opos c1354 hf
    refine g_aload_n X dX8_forget_23 0 rfl rfl ?_
    obtain ⟨q1352, hq1352, hf⟩ := obind hf
    refine g_callV (gs' := [MO h0 h1 h2 h3 h4 h5 h6 h7 h8 q1352.1, AI cy 107 h2 v2, AI cy 1498 h4 q1352.2]) (rest := []) X dX8_forget_24 (c_X8_remember l D cy ad h0 h1 h2 h3 h4 h5 h6 h7 h8 q1351.2 v2 v4 hq1352) mf_X8_remember mv_X8_remember lkm_X8_177 ⟨(Nat.le_of_ble_eq_true rfl), (Nat.le_of_ble_eq_true rfl), (Nat.le_of_ble_eq_true rfl), (Nat.le_of_ble_eq_true rfl)⟩ 0 0 rfl rfl rfl rfl [0, 1, 2] _ (by decide : [0, 1, 2].Perm (List.range 3)) rfl (by decide : [0, 1, 2].Perm (List.range 3)) rfl (Nat.le_of_ble_eq_true rfl) rfl ?_
    refine g_aload_n X dX8_forget_27 0 rfl rfl ?_
    refine g_get X dX8_forget_28 ck_X8 0 0 3 rfl rfl (Nat.le_of_ble_eq_true rfl) lkf_X8_13 rfl ?_
    obtain ⟨q1353, hq1353, hf⟩ := obind hf
    refine g_callS (gs' := [MO h0 h1 h2 h3 h4 h5 h6 h7 h8 q1352.1, AI cy 107 h2 q1353.2, AI cy 1498 h4 q1352.2]) (rest := []) X dX8_forget_31 (c_X8_forgetOn l D cy ad h2 v2 hq1353) mf_X8_forgetOn ms_X8_forgetOn lkm_X8_190 ⟨(Nat.le_of_ble_eq_true rfl), (Nat.le_of_ble_eq_true rfl), (Nat.le_of_ble_eq_true rfl), (Nat.le_of_ble_eq_true rfl)⟩ [1, 0, 2] _ (by decide : [1, 0, 2].Perm (List.range 3)) rfl (by decide : [1, 0, 2].Perm (List.range 3)) rfl (Nat.le_of_ble_eq_true rfl) rfl ?_
    have hf := Option.some.inj hf
    subst hf
    exact g_iret X hr dX8_forget_34
  · have hf := oneg c1354 hf
    refine g_iconst X (0 : Int32) dX8_forget_21 (by decide) ?_
    have hf := Option.some.inj hf
    subst hf
    exact g_iret X hr dX8_forget_22
def f_X8_forget (v0 : MOv) (v2 : Fn) (v4 : Fn) : Option (Int32 × MOv × Fn × Fn) :=
  if (v2 (4 : Int32).toNatClampNeg) = 0 then f_X8_forget_b15 v0 v2 v4 true else f_X8_forget_b15 v0 v2 v4 false
set_option maxRecDepth 100000 in
set_option maxHeartbeats 4000000 in
theorem c_X8_forget (l : Launch) (D : va_G) (cy : Nat → ClassId) (ad : (Nat → Nat) × (Nat → Nat)) (h0 : Nat) (h1 : Nat) (h2 : Nat) (h3 : Nat) (h4 : Nat) (h5 : Nat) (h6 : Nat) (h7 : Nat) (h8 : Nat) (v0 : MOv) (v2 : Fn) (v4 : Fn) {q : Int32 × MOv × Fn × Fn} (hf : f_X8_forget v0 v2 v4 = some q) : CM l yX8_forget cX8_forget 1 (some .int) rmX8_forget D cy ad [.ref h0] [MO h0 h1 h2 h3 h4 h5 h6 h7 h8 v0, AI cy 107 h2 v2, AI cy 1498 h4 v4] (some (.int q.1)) [MO h0 h1 h2 h3 h4 h5 h6 h7 h8 q.2.1, AI cy 107 h2 q.2.2.1, AI cy 1498 h4 q.2.2.2] := by
  refine cm_of (lv0 := [(0, .ref h0)]) (by decide) (Nat.le_of_ble_eq_true rfl) rfl ?_
  intro p e s m args below meth c A X hr hn
  have X : gK p s m args meth c A D cy ad cX8_forget 1 RX8 := X
  unfold f_X8_forget at hf
  refine g_aload_n X dX8_forget_0 0 rfl rfl ?_
  refine g_aload_n X dX8_forget_1 0 rfl rfl ?_
  refine g_get X dX8_forget_2 ck_X8 0 0 3 rfl rfl (Nat.le_of_ble_eq_true rfl) lkf_X8_13 rfl ?_
  refine g_iconst X (4 : Int32) dX8_forget_5 (by decide) ?_
  refine g_iaload X dX8_forget_6 1 0 rfl rfl (by decide) ?_
  refine g_if_ne X 14 dX8_forget_7 (by decide) (fun c1355 => ?_) (fun c1355 => ?_)
  · have hf := oneg c1355 hf
    refine g_iconst X (0 : Int32) dX8_forget_14 (by decide) ?_
    exact j_X8_forget_b15 X hr v0 v2 v4 false hf
  · have hf := opos c1355 hf
    refine g_iconst X (1 : Int32) dX8_forget_10 (by decide) ?_
    refine g_goto X 15 dX8_forget_11 (by decide) ?_
    exact j_X8_forget_b15 X hr v0 v2 v4 true hf
abbrev rmX8_undo : Room := ({ frames := 1, cells := 0, slots := 0, locals := 24 } : Room)
def f_X8_undo_b13 (v0 : MOv) (v2 : Fn) (v4 : Fn) (y0 : Bool) : Option (Int32 × MOv × Fn) :=
  (f_X8_refused v0 (b2i y0)).bind (fun q1360 => if (b2i q1360.1) = 0 then (f_X8_copyState 1498 107 v4 v2 ((107 : Int32) * (q1360.2.2.2.1 - (1 : Int32))) (0 : Int32)).bind (fun q1361 => some ((q1360.2.2.2.1 - (1 : Int32)), (q1360.2.1, q1360.2.2.1, (q1360.2.2.2.1 - (1 : Int32)), q1360.2.2.2.2.1, q1360.2.2.2.2.2.1, q1360.2.2.2.2.2.2), q1361)) else some ((0 : Int32), q1360.2, v2))
set_option maxRecDepth 100000 in
set_option maxHeartbeats 4000000 in
theorem j_X8_undo_b13 {p : Program} {l : Launch} {e : Env} {s : State} {m : MethodId} {args : Array Value} {below : List Frame} {meth : Method} {c : Code} {A : Nat → Prop} {D : va_G} {cy : Nat → ClassId} {ad : (Nat → Nat) × (Nat → Nat)} (X : gK p s m args meth c A D cy ad cX8_undo 1 RX8) (hr : meth.sig.returnType = (some .int)) {h0 h1 h2 h3 h4 h5 h6 h7 h8 : Nat} (v0 : MOv) (v2 : Fn) (v4 : Fn) (y0 : Bool) {q : Int32 × MOv × Fn} (hf : f_X8_undo_b13 v0 v2 v4 y0 = some q) : GW p l e rmX8_undo s m args below meth c A D 1 0 0 (MQ below (cmQ D cy A (some (.int q.1)) ([MO h0 h1 h2 h3 h4 h5 h6 h7 h8 q.2.1, AI cy 107 h2 q.2.2, AI cy 1498 h4 v4] : List va_W).flatten) args s 0 0 A) 13 [(0, .ref h0)] [.int (b2i y0), .ref h0] [MO h0 h1 h2 h3 h4 h5 h6 h7 h8 v0, AI cy 107 h2 v2, AI cy 1498 h4 v4] := by
  unfold f_X8_undo_b13 at hf
  obtain ⟨q1360, hq1360, hf⟩ := obind hf
  refine g_callV (gs' := [MO h0 h1 h2 h3 h4 h5 h6 h7 h8 q1360.2, AI cy 107 h2 v2, AI cy 1498 h4 v4]) (rest := []) X dX8_undo_13 (c_X8_refused l D cy ad h0 h1 h2 h3 h4 h5 h6 h7 h8 v0 (b2i y0) hq1360) mf_X8_refused mv_X8_refused lkm_X8_102 ⟨(Nat.le_of_ble_eq_true rfl), (Nat.le_of_ble_eq_true rfl), (Nat.le_of_ble_eq_true rfl), (Nat.le_of_ble_eq_true rfl)⟩ 0 0 rfl rfl rfl rfl [0, 1, 2] _ (by decide : [0, 1, 2].Perm (List.range 3)) rfl (by decide : [0, 1, 2].Perm (List.range 3)) rfl (Nat.le_of_ble_eq_true rfl) rfl ?_
  refine g_if_eq X 21 dX8_undo_16 (by decide) (fun c1362 => ?_) (fun c1362 => ?_)
  · have hf := opos c1362 hf
    refine g_aload_n X dX8_undo_21 0 rfl rfl ?_
    refine g_dup X dX8_undo_22 rfl ?_
    refine g_get X dX8_undo_23 ck_X8 0 0 6 rfl rfl (Nat.le_of_ble_eq_true rfl) lkf_X8_158 rfl ?_
    refine g_iconst X (1 : Int32) dX8_undo_26 (by decide) ?_
    refine g_isub X dX8_undo_27 ?_
    refine g_put (gs' := [MO h0 h1 h2 h3 h4 h5 h6 h7 h8 (q1360.2.1, q1360.2.2.1, (q1360.2.2.2.1 - (1 : Int32)), q1360.2.2.2.2.1, q1360.2.2.2.2.2.1, q1360.2.2.2.2.2.2), AI cy 107 h2 v2, AI cy 1498 h4 v4]) X dX8_undo_28 ck_X8 ct_X8 0 0 6 rfl rfl (Nat.le_of_ble_eq_true rfl) lkf_X8_158 rfl rfl rfl (Nat.le_of_ble_eq_true rfl) rfl ?_
    refine g_aload_n X dX8_undo_31 0 rfl rfl ?_
    refine g_get X dX8_undo_32 ck_X8 0 0 5 rfl rfl (Nat.le_of_ble_eq_true rfl) lkf_X8_19 rfl ?_
    refine g_bipush X (107 : Int32) dX8_undo_35 (by decide) ?_
    refine g_aload_n X dX8_undo_37 0 rfl rfl ?_
    refine g_get X dX8_undo_38 ck_X8 0 0 6 rfl rfl (Nat.le_of_ble_eq_true rfl) lkf_X8_158 rfl ?_
    refine g_imul X dX8_undo_41 ?_
    refine g_aload_n X dX8_undo_42 0 rfl rfl ?_
    refine g_get X dX8_undo_43 ck_X8 0 0 3 rfl rfl (Nat.le_of_ble_eq_true rfl) lkf_X8_13 rfl ?_
    refine g_iconst X (0 : Int32) dX8_undo_46 (by decide) ?_
    obtain ⟨q1361, hq1361, hf⟩ := obind hf
    refine g_callS (gs' := [MO h0 h1 h2 h3 h4 h5 h6 h7 h8 (q1360.2.1, q1360.2.2.1, (q1360.2.2.2.1 - (1 : Int32)), q1360.2.2.2.2.1, q1360.2.2.2.2.2.1, q1360.2.2.2.2.2.2), AI cy 107 h2 q1361, AI cy 1498 h4 v4]) (rest := []) X dX8_undo_47 (c_X8_copyState l D cy ad h4 h2 1498 107 v4 v2 ((107 : Int32) * (q1360.2.2.2.1 - (1 : Int32))) (0 : Int32) hq1361) mf_X8_copyState ms_X8_copyState lkm_X8_154 ⟨(Nat.le_of_ble_eq_true rfl), (Nat.le_of_ble_eq_true rfl), (Nat.le_of_ble_eq_true rfl), (Nat.le_of_ble_eq_true rfl)⟩ [2, 1, 0] _ (by decide : [2, 1, 0].Perm (List.range 3)) rfl (by decide : [2, 1, 0].Perm (List.range 3)) rfl (Nat.le_of_ble_eq_true rfl) rfl ?_
    refine g_aload_n X dX8_undo_50 0 rfl rfl ?_
    refine g_get X dX8_undo_51 ck_X8 0 0 6 rfl rfl (Nat.le_of_ble_eq_true rfl) lkf_X8_158 rfl ?_
    have hf := Option.some.inj hf
    subst hf
    exact g_iret X hr dX8_undo_54
  · have hf := oneg c1362 hf
    refine g_iconst X (0 : Int32) dX8_undo_19 (by decide) ?_
    have hf := Option.some.inj hf
    subst hf
    exact g_iret X hr dX8_undo_20
def f_X8_undo (v0 : MOv) (v2 : Fn) (v4 : Fn) : Option (Int32 × MOv × Fn) :=
  if v0.2.2.1 = 0 then f_X8_undo_b13 v0 v2 v4 true else f_X8_undo_b13 v0 v2 v4 false
set_option maxRecDepth 100000 in
set_option maxHeartbeats 4000000 in
theorem c_X8_undo (l : Launch) (D : va_G) (cy : Nat → ClassId) (ad : (Nat → Nat) × (Nat → Nat)) (h0 : Nat) (h1 : Nat) (h2 : Nat) (h3 : Nat) (h4 : Nat) (h5 : Nat) (h6 : Nat) (h7 : Nat) (h8 : Nat) (v0 : MOv) (v2 : Fn) (v4 : Fn) {q : Int32 × MOv × Fn} (hf : f_X8_undo v0 v2 v4 = some q) : CM l yX8_undo cX8_undo 1 (some .int) rmX8_undo D cy ad [.ref h0] [MO h0 h1 h2 h3 h4 h5 h6 h7 h8 v0, AI cy 107 h2 v2, AI cy 1498 h4 v4] (some (.int q.1)) [MO h0 h1 h2 h3 h4 h5 h6 h7 h8 q.2.1, AI cy 107 h2 q.2.2, AI cy 1498 h4 v4] := by
  refine cm_of (lv0 := [(0, .ref h0)]) (by decide) (Nat.le_of_ble_eq_true rfl) rfl ?_
  intro p e s m args below meth c A X hr hn
  have X : gK p s m args meth c A D cy ad cX8_undo 1 RX8 := X
  unfold f_X8_undo at hf
  refine g_aload_n X dX8_undo_0 0 rfl rfl ?_
  refine g_aload_n X dX8_undo_1 0 rfl rfl ?_
  refine g_get X dX8_undo_2 ck_X8 0 0 6 rfl rfl (Nat.le_of_ble_eq_true rfl) lkf_X8_158 rfl ?_
  refine g_if_ne X 12 dX8_undo_5 (by decide) (fun c1363 => ?_) (fun c1363 => ?_)
  · have hf := oneg c1363 hf
    refine g_iconst X (0 : Int32) dX8_undo_12 (by decide) ?_
    exact j_X8_undo_b13 X hr v0 v2 v4 false hf
  · have hf := opos c1363 hf
    refine g_iconst X (1 : Int32) dX8_undo_8 (by decide) ?_
    refine g_goto X 13 dX8_undo_9 (by decide) ?_
    exact j_X8_undo_b13 X hr v0 v2 v4 true hf
abbrev rmX8_leaves : Room := ({ frames := 5, cells := 0, slots := 0, locals := 116 } : Room)
def f_X8_leaves_b34 (v0 : MOv) (v2 : Fn) (v7 : Fn) (v8 : Fn) (x1 : Int32) (x2 : Int32) (x3 : Int32) (y0 : Int32) : Option (Int32 × MOv × Fn × Fn) :=
  (f_X8_refused v0 y0).bind (fun q1378 => if (b2i q1378.1) = 0 then (f_X8_gather q1378.2 v7 v2).bind (fun q1379 => (f_X8_worst q1379.1 q1379.2 v8 x1 x2 (v2 (2 : Int32).toNatClampNeg) (v2 (3 : Int32).toNatClampNeg)).bind (fun q1380 => if x3 < 0 ∨ 3 ≤ x3.toNatClampNeg then none else some ((q1380.2 x3.toNatClampNeg), q1379.1, q1379.2, q1380.2))) else some ((0 : Int32), q1378.2, v7, v8))
set_option maxRecDepth 100000 in
set_option maxHeartbeats 4000000 in
theorem j_X8_leaves_b34 {p : Program} {l : Launch} {e : Env} {s : State} {m : MethodId} {args : Array Value} {below : List Frame} {meth : Method} {c : Code} {A : Nat → Prop} {D : va_G} {cy : Nat → ClassId} {ad : (Nat → Nat) × (Nat → Nat)} (X : gK p s m args meth c A D cy ad cX8_leaves 4 RX8) (hr : meth.sig.returnType = (some .int)) {h0 h1 h2 h3 h4 h5 h6 h7 h8 : Nat} (v0 : MOv) (v2 : Fn) (v7 : Fn) (v8 : Fn) (x1 : Int32) (x2 : Int32) (x3 : Int32) (y0 : Int32) {q : Int32 × MOv × Fn × Fn} (hf : f_X8_leaves_b34 v0 v2 v7 v8 x1 x2 x3 y0 = some q) : GW p l e rmX8_leaves s m args below meth c A D 4 0 0 (MQ below (cmQ D cy A (some (.int q.1)) ([MO h0 h1 h2 h3 h4 h5 h6 h7 h8 q.2.1, AI cy 107 h2 v2, AI cy 75 h7 q.2.2.1, AI cy 3 h8 q.2.2.2] : List va_W).flatten) args s 0 0 A) 34 [(0, .ref h0), (1, .int x1), (2, .int x2), (3, .int x3)] [.int y0, .ref h0] [MO h0 h1 h2 h3 h4 h5 h6 h7 h8 v0, AI cy 107 h2 v2, AI cy 75 h7 v7, AI cy 3 h8 v8] := by
  unfold f_X8_leaves_b34 at hf
  obtain ⟨q1378, hq1378, hf⟩ := obind hf
  refine g_callV (gs' := [MO h0 h1 h2 h3 h4 h5 h6 h7 h8 q1378.2, AI cy 107 h2 v2, AI cy 75 h7 v7, AI cy 3 h8 v8]) (rest := []) X dX8_leaves_34 (c_X8_refused l D cy ad h0 h1 h2 h3 h4 h5 h6 h7 h8 v0 y0 hq1378) mf_X8_refused mv_X8_refused lkm_X8_102 ⟨(Nat.le_of_ble_eq_true rfl), (Nat.le_of_ble_eq_true rfl), (Nat.le_of_ble_eq_true rfl), (Nat.le_of_ble_eq_true rfl)⟩ 0 0 rfl rfl rfl rfl [0, 1, 2, 3] _ (by decide : [0, 1, 2, 3].Perm (List.range 4)) rfl (by decide : [0, 1, 2, 3].Perm (List.range 4)) rfl (Nat.le_of_ble_eq_true rfl) rfl ?_
  refine g_if_eq X 42 dX8_leaves_37 (by decide) (fun c1382 => ?_) (fun c1382 => ?_)
  · have hf := opos c1382 hf
    refine g_aload_n X dX8_leaves_42 0 rfl rfl ?_
    refine g_aload_n X dX8_leaves_43 0 rfl rfl ?_
    refine g_get X dX8_leaves_44 ck_X8 0 0 3 rfl rfl (Nat.le_of_ble_eq_true rfl) lkf_X8_13 rfl ?_
    obtain ⟨q1379, hq1379, hf⟩ := obind hf
    refine g_callV (gs' := [MO h0 h1 h2 h3 h4 h5 h6 h7 h8 q1379.1, AI cy 107 h2 v2, AI cy 75 h7 q1379.2, AI cy 3 h8 v8]) (rest := []) X dX8_leaves_47 (c_X8_gather l D cy ad h0 h1 h2 h3 h4 h5 h6 h7 h8 h2 q1378.2 v7 v2 hq1379) mf_X8_gather mv_X8_gather lkm_X8_193 ⟨(Nat.le_of_ble_eq_true rfl), (Nat.le_of_ble_eq_true rfl), (Nat.le_of_ble_eq_true rfl), (Nat.le_of_ble_eq_true rfl)⟩ 0 0 rfl rfl rfl rfl [0, 2, 1, 3] _ (by decide : [0, 2, 1, 3].Perm (List.range 4)) rfl (by decide : [0, 2, 1, 3].Perm (List.range 4)) rfl (Nat.le_of_ble_eq_true rfl) rfl ?_
    refine g_aload_n X dX8_leaves_50 0 rfl rfl ?_
    refine g_iload_n X dX8_leaves_51 1 rfl rfl ?_
    refine g_iload_n X dX8_leaves_52 2 rfl rfl ?_
    refine g_aload_n X dX8_leaves_53 0 rfl rfl ?_
    refine g_get X dX8_leaves_54 ck_X8 0 0 3 rfl rfl (Nat.le_of_ble_eq_true rfl) lkf_X8_13 rfl ?_
    refine g_iconst X (2 : Int32) dX8_leaves_57 (by decide) ?_
    refine g_iaload X dX8_leaves_58 1 0 rfl rfl (by decide) ?_
    refine g_aload_n X dX8_leaves_59 0 rfl rfl ?_
    refine g_get X dX8_leaves_60 ck_X8 0 0 3 rfl rfl (Nat.le_of_ble_eq_true rfl) lkf_X8_13 rfl ?_
    refine g_iconst X (3 : Int32) dX8_leaves_63 (by decide) ?_
    refine g_iaload X dX8_leaves_64 1 0 rfl rfl (by decide) ?_
    obtain ⟨q1380, hq1380, hf⟩ := obind hf
    refine g_callV (gs' := [MO h0 h1 h2 h3 h4 h5 h6 h7 h8 q1379.1, AI cy 107 h2 v2, AI cy 75 h7 q1379.2, AI cy 3 h8 q1380.2]) (rest := []) X dX8_leaves_65 (c_X8_worst l D cy ad h0 h1 h2 h3 h4 h5 h6 h7 h8 q1379.1 q1379.2 v8 x1 x2 (v2 (2 : Int32).toNatClampNeg) (v2 (3 : Int32).toNatClampNeg) hq1380) mf_X8_worst mv_X8_worst lkm_X8_196 ⟨(Nat.le_of_ble_eq_true rfl), (Nat.le_of_ble_eq_true rfl), (Nat.le_of_ble_eq_true rfl), (Nat.le_of_ble_eq_true rfl)⟩ 0 0 rfl rfl rfl rfl [0, 2, 3, 1] _ (by decide : [0, 2, 3, 1].Perm (List.range 4)) rfl (by decide : [0, 2, 3, 1].Perm (List.range 4)) rfl (Nat.le_of_ble_eq_true rfl) rfl ?_
    refine g_pop X dX8_leaves_68 rfl ?_
    refine g_aload_n X dX8_leaves_69 0 rfl rfl ?_
    refine g_get X dX8_leaves_70 ck_X8 0 0 11 rfl rfl (Nat.le_of_ble_eq_true rfl) lkf_X8_32 rfl ?_
    refine g_iload_n X dX8_leaves_73 3 rfl rfl ?_
    obtain ⟨n1381, hf⟩ := oguard hf
    refine g_iaload X dX8_leaves_74 3 0 rfl rfl n1381 ?_
    have hf := Option.some.inj hf
    subst hf
    exact g_iret X hr dX8_leaves_75
  · have hf := oneg c1382 hf
    refine g_iconst X (0 : Int32) dX8_leaves_40 (by decide) ?_
    have hf := Option.some.inj hf
    subst hf
    exact g_iret X hr dX8_leaves_41
def f_X8_leaves (v0 : MOv) (v2 : Fn) (v7 : Fn) (v8 : Fn) (p1 : Int32) (p2 : Int32) (p3 : Int32) : Option (Int32 × MOv × Fn × Fn) :=
  (f_X8_in (p3.toInt64) (0 : Int64) (2 : Int64)).bind (fun q1376 => if (b2i q1376) = 0 then f_X8_leaves_b34 v0 v2 v7 v8 p1 p2 p3 (1 : Int32) else (f_X8_isWeighing v2 p1 p2).bind (fun q1377 => if (b2i q1377) = 0 then f_X8_leaves_b34 v0 v2 v7 v8 p1 p2 p3 (2 : Int32) else f_X8_leaves_b34 v0 v2 v7 v8 p1 p2 p3 (0 : Int32)))
set_option maxRecDepth 100000 in
set_option maxHeartbeats 4000000 in
theorem c_X8_leaves (l : Launch) (D : va_G) (cy : Nat → ClassId) (ad : (Nat → Nat) × (Nat → Nat)) (h0 : Nat) (h1 : Nat) (h2 : Nat) (h3 : Nat) (h4 : Nat) (h5 : Nat) (h6 : Nat) (h7 : Nat) (h8 : Nat) (v0 : MOv) (v2 : Fn) (v7 : Fn) (v8 : Fn) (p1 : Int32) (p2 : Int32) (p3 : Int32) {q : Int32 × MOv × Fn × Fn} (hf : f_X8_leaves v0 v2 v7 v8 p1 p2 p3 = some q) : CM l yX8_leaves cX8_leaves 4 (some .int) rmX8_leaves D cy ad [.ref h0, .int p1, .int p2, .int p3] [MO h0 h1 h2 h3 h4 h5 h6 h7 h8 v0, AI cy 107 h2 v2, AI cy 75 h7 v7, AI cy 3 h8 v8] (some (.int q.1)) [MO h0 h1 h2 h3 h4 h5 h6 h7 h8 q.2.1, AI cy 107 h2 v2, AI cy 75 h7 q.2.2.1, AI cy 3 h8 q.2.2.2] := by
  refine cm_of (lv0 := [(0, .ref h0), (1, .int p1), (2, .int p2), (3, .int p3)]) (by decide) (Nat.le_of_ble_eq_true rfl) rfl ?_
  intro p e s m args below meth c A X hr hn
  have X : gK p s m args meth c A D cy ad cX8_leaves 4 RX8 := X
  unfold f_X8_leaves at hf
  refine g_aload_n X dX8_leaves_0 0 rfl rfl ?_
  refine g_iload_n X dX8_leaves_1 3 rfl rfl ?_
  refine g_i2l X dX8_leaves_2 ?_
  refine g_lconst X (0 : Int64) dX8_leaves_3 (by decide) ?_
  refine g_ldc2 X lkl_X8_188 dX8_leaves_4 ?_
  obtain ⟨q1376, hq1376, hf⟩ := obind hf
  refine g_callS (gs' := [MO h0 h1 h2 h3 h4 h5 h6 h7 h8 v0, AI cy 107 h2 v2, AI cy 75 h7 v7, AI cy 3 h8 v8]) (rest := [.ref h0]) X dX8_leaves_7 (c_X8_in l D cy ad (p3.toInt64) (0 : Int64) (2 : Int64) hq1376) mf_X8_in ms_X8_in lkm_X8_43 ⟨(Nat.le_of_ble_eq_true rfl), (Nat.le_of_ble_eq_true rfl), (Nat.le_of_ble_eq_true rfl), (Nat.le_of_ble_eq_true rfl)⟩ [0, 1, 2, 3] _ (by decide : [0, 1, 2, 3].Perm (List.range 4)) rfl (by decide : [0, 1, 2, 3].Perm (List.range 4)) rfl (Nat.le_of_ble_eq_true rfl) rfl ?_
  refine g_if_ne X 17 dX8_leaves_10 (by decide) (fun c1384 => ?_) (fun c1384 => ?_)
  · have hf := oneg c1384 hf
    refine g_aload_n X dX8_leaves_17 0 rfl rfl ?_
    refine g_get X dX8_leaves_18 ck_X8 0 0 3 rfl rfl (Nat.le_of_ble_eq_true rfl) lkf_X8_13 rfl ?_
    refine g_iload_n X dX8_leaves_21 1 rfl rfl ?_
    refine g_iload_n X dX8_leaves_22 2 rfl rfl ?_
    obtain ⟨q1377, hq1377, hf⟩ := obind hf
    refine g_callS (gs' := [MO h0 h1 h2 h3 h4 h5 h6 h7 h8 v0, AI cy 107 h2 v2, AI cy 75 h7 v7, AI cy 3 h8 v8]) (rest := [.ref h0]) X dX8_leaves_23 (c_X8_isWeighing l D cy ad h2 v2 p1 p2 hq1377) mf_X8_isWeighing ms_X8_isWeighing lkm_X8_90 ⟨(Nat.le_of_ble_eq_true rfl), (Nat.le_of_ble_eq_true rfl), (Nat.le_of_ble_eq_true rfl), (Nat.le_of_ble_eq_true rfl)⟩ [1, 0, 2, 3] _ (by decide : [1, 0, 2, 3].Perm (List.range 4)) rfl (by decide : [1, 0, 2, 3].Perm (List.range 4)) rfl (Nat.le_of_ble_eq_true rfl) rfl ?_
    refine g_if_eq X 33 dX8_leaves_26 (by decide) (fun c1383 => ?_) (fun c1383 => ?_)
    · have hf := opos c1383 hf
      refine g_iconst X (2 : Int32) dX8_leaves_33 (by decide) ?_
      exact j_X8_leaves_b34 X hr v0 v2 v7 v8 p1 p2 p3 (2 : Int32) hf
    · have hf := oneg c1383 hf
      refine g_iconst X (0 : Int32) dX8_leaves_29 (by decide) ?_
      refine g_goto X 34 dX8_leaves_30 (by decide) ?_
      exact j_X8_leaves_b34 X hr v0 v2 v7 v8 p1 p2 p3 (0 : Int32) hf
  · have hf := opos c1384 hf
    refine g_iconst X (1 : Int32) dX8_leaves_13 (by decide) ?_
    refine g_goto X 34 dX8_leaves_14 (by decide) ?_
    exact j_X8_leaves_b34 X hr v0 v2 v7 v8 p1 p2 p3 (1 : Int32) hf
abbrev rmX8_best : Room := ({ frames := 5, cells := 0, slots := 0, locals := 116 } : Room)
def f_X8_best_B76_b192 (v0 : MOv) (v2 : Fn) (v7 : Fn) (v8 : Fn) (x1 : Int32) (x2 : Int32) (x3 : Int32) (x4 : Int32) (x5 : Int32) (x6 : Int32) (x7 : Int32) (x8 : Int32) : Option ((Int32 × Int32 × Int32 × Int32 × Fn) ⊕ ((Int32 × Int32 × Int32 × Fn))) :=
  some (.inl (x4, x5, x6, (x8 + (1 : Int32)), v8))
set_option maxRecDepth 100000 in
set_option maxHeartbeats 4000000 in
theorem j_X8_best_B76_b192 {p : Program} {l : Launch} {e : Env} {s : State} {m : MethodId} {args : Array Value} {below : List Frame} {meth : Method} {c : Code} {A : Nat → Prop} {D : va_G} {cy : Nat → ClassId} {ad : (Nat → Nat) × (Nat → Nat)} {Q : State → Prop} (X : gK p s m args meth c A D cy ad cX8_best 11 RX8) (hr : meth.sig.returnType = (some .int)) {h0 h1 h2 h3 h4 h5 h6 h7 h8 : Nat} (v0 : MOv) (v2 : Fn) (v7 : Fn) (v8 : Fn) (x1 : Int32) (x2 : Int32) (x3 : Int32) (x4 : Int32) (x5 : Int32) (x6 : Int32) (x7 : Int32) (x8 : Int32) {q : (Int32 × Int32 × Int32 × Int32 × Fn) ⊕ ((Int32 × Int32 × Int32 × Fn))} (hf : f_X8_best_B76_b192 v0 v2 v7 v8 x1 x2 x3 x4 x5 x6 x7 x8 = some q) (K1 : ∀ s' : Int32 × Int32 × Int32 × Int32 × Fn, q = .inl s' → GW p l e rmX8_best s m args below meth c A D 11 0 0 Q 76 [(0, .ref h0), (1, .int x1), (2, .int x2), (3, .int x3), (4, .int s'.1), (5, .int s'.2.1), (6, .int s'.2.2.1), (7, .int x7), (8, .int s'.2.2.2.1)] [] [MO h0 h1 h2 h3 h4 h5 h6 h7 h8 v0, AI cy 107 h2 v2, AI cy 75 h7 v7, AI cy 3 h8 s'.2.2.2.2]) (K2 : ∀ e' : Int32 × Int32 × Int32 × Fn, q = .inr (e') → GW p l e rmX8_best s m args below meth c A D 11 0 0 Q 198 [(0, .ref h0), (1, .int x1), (2, .int x2), (3, .int x3), (4, .int e'.1), (5, .int e'.2.1), (6, .int e'.2.2.1), (7, .int x7)] [] [MO h0 h1 h2 h3 h4 h5 h6 h7 h8 v0, AI cy 107 h2 v2, AI cy 75 h7 v7, AI cy 3 h8 e'.2.2.2]) : GW p l e rmX8_best s m args below meth c A D 11 0 0 Q 192 [(0, .ref h0), (1, .int x1), (2, .int x2), (3, .int x3), (4, .int x4), (5, .int x5), (6, .int x6), (7, .int x7), (8, .int x8)] [] [MO h0 h1 h2 h3 h4 h5 h6 h7 h8 v0, AI cy 107 h2 v2, AI cy 75 h7 v7, AI cy 3 h8 v8] := by
  unfold f_X8_best_B76_b192 at hf
  refine g_iinc (lv' := [(0, .ref h0), (1, .int x1), (2, .int x2), (3, .int x3), (4, .int x4), (5, .int x5), (6, .int x6), (7, .int x7), (8, .int (x8 + (1 : Int32)))]) (v := (1 : Int32)) X dX8_best_192 8 rfl (by decide) [1, 2, 3, 4, 5, 6, 7, 8, 0] (Nat.le_of_ble_eq_true rfl) rfl ?_
  refine g_goto X 76 dX8_best_195 (by decide) ?_
  exact K1 (x4, x5, x6, (x8 + (1 : Int32)), v8) (Option.some.inj hf).symm
def f_X8_best_B76_b190 (v0 : MOv) (v2 : Fn) (v7 : Fn) (v8 : Fn) (x1 : Int32) (x2 : Int32) (x3 : Int32) (x4 : Int32) (x5 : Int32) (x7 : Int32) (x8 : Int32) (y0 : Int32) : Option ((Int32 × Int32 × Int32 × Int32 × Fn) ⊕ ((Int32 × Int32 × Int32 × Fn))) :=
  f_X8_best_B76_b192 v0 v2 v7 v8 x1 x2 x3 x4 x5 y0 x7 x8
set_option maxRecDepth 100000 in
set_option maxHeartbeats 4000000 in
theorem j_X8_best_B76_b190 {p : Program} {l : Launch} {e : Env} {s : State} {m : MethodId} {args : Array Value} {below : List Frame} {meth : Method} {c : Code} {A : Nat → Prop} {D : va_G} {cy : Nat → ClassId} {ad : (Nat → Nat) × (Nat → Nat)} {Q : State → Prop} (X : gK p s m args meth c A D cy ad cX8_best 11 RX8) (hr : meth.sig.returnType = (some .int)) {h0 h1 h2 h3 h4 h5 h6 h7 h8 : Nat} (v0 : MOv) (v2 : Fn) (v7 : Fn) (v8 : Fn) (x1 : Int32) (x2 : Int32) (x3 : Int32) (x4 : Int32) (x5 : Int32) (x7 : Int32) (x8 : Int32) (y0 : Int32) {q : (Int32 × Int32 × Int32 × Int32 × Fn) ⊕ ((Int32 × Int32 × Int32 × Fn))} (hf : f_X8_best_B76_b190 v0 v2 v7 v8 x1 x2 x3 x4 x5 x7 x8 y0 = some q) (K1 : ∀ s' : Int32 × Int32 × Int32 × Int32 × Fn, q = .inl s' → GW p l e rmX8_best s m args below meth c A D 11 0 0 Q 76 [(0, .ref h0), (1, .int x1), (2, .int x2), (3, .int x3), (4, .int s'.1), (5, .int s'.2.1), (6, .int s'.2.2.1), (7, .int x7), (8, .int s'.2.2.2.1)] [] [MO h0 h1 h2 h3 h4 h5 h6 h7 h8 v0, AI cy 107 h2 v2, AI cy 75 h7 v7, AI cy 3 h8 s'.2.2.2.2]) (K2 : ∀ e' : Int32 × Int32 × Int32 × Fn, q = .inr (e') → GW p l e rmX8_best s m args below meth c A D 11 0 0 Q 198 [(0, .ref h0), (1, .int x1), (2, .int x2), (3, .int x3), (4, .int e'.1), (5, .int e'.2.1), (6, .int e'.2.2.1), (7, .int x7)] [] [MO h0 h1 h2 h3 h4 h5 h6 h7 h8 v0, AI cy 107 h2 v2, AI cy 75 h7 v7, AI cy 3 h8 e'.2.2.2]) : GW p l e rmX8_best s m args below meth c A D 11 0 0 Q 190 [(0, .ref h0), (1, .int x1), (2, .int x2), (3, .int x3), (4, .int x4), (5, .int x5), (7, .int x7), (8, .int x8)] [.int y0] [MO h0 h1 h2 h3 h4 h5 h6 h7 h8 v0, AI cy 107 h2 v2, AI cy 75 h7 v7, AI cy 3 h8 v8] := by
  unfold f_X8_best_B76_b190 at hf
  refine g_istore (lv' := [(0, .ref h0), (1, .int x1), (2, .int x2), (3, .int x3), (4, .int x4), (5, .int x5), (6, .int y0), (7, .int x7), (8, .int x8)]) X dX8_best_190 [1, 2, 3, 4, 5, 6, 0, 7, 8] (Nat.le_of_ble_eq_true rfl) rfl ?_
  exact j_X8_best_B76_b192 X hr v0 v2 v7 v8 x1 x2 x3 x4 x5 y0 x7 x8 hf K1 K2
def f_X8_best_B76_b176 (v0 : MOv) (v2 : Fn) (v7 : Fn) (v8 : Fn) (x1 : Int32) (x2 : Int32) (x3 : Int32) (x4 : Int32) (x6 : Int32) (x7 : Int32) (x8 : Int32) (x9 : Int32) (x10 : Int32) (y0 : Int32) : Option ((Int32 × Int32 × Int32 × Int32 × Fn) ⊕ ((Int32 × Int32 × Int32 × Fn))) :=
  if x10 = 0 then f_X8_best_B76_b190 v0 v2 v7 v8 x1 x2 x3 x4 y0 x7 x8 x6 else f_X8_best_B76_b190 v0 v2 v7 v8 x1 x2 x3 x4 y0 x7 x8 x9
set_option maxRecDepth 100000 in
set_option maxHeartbeats 4000000 in
theorem j_X8_best_B76_b176 {p : Program} {l : Launch} {e : Env} {s : State} {m : MethodId} {args : Array Value} {below : List Frame} {meth : Method} {c : Code} {A : Nat → Prop} {D : va_G} {cy : Nat → ClassId} {ad : (Nat → Nat) × (Nat → Nat)} {Q : State → Prop} (X : gK p s m args meth c A D cy ad cX8_best 11 RX8) (hr : meth.sig.returnType = (some .int)) {h0 h1 h2 h3 h4 h5 h6 h7 h8 : Nat} (v0 : MOv) (v2 : Fn) (v7 : Fn) (v8 : Fn) (x1 : Int32) (x2 : Int32) (x3 : Int32) (x4 : Int32) (x6 : Int32) (x7 : Int32) (x8 : Int32) (x9 : Int32) (x10 : Int32) (y0 : Int32) {q : (Int32 × Int32 × Int32 × Int32 × Fn) ⊕ ((Int32 × Int32 × Int32 × Fn))} (hf : f_X8_best_B76_b176 v0 v2 v7 v8 x1 x2 x3 x4 x6 x7 x8 x9 x10 y0 = some q) (K1 : ∀ s' : Int32 × Int32 × Int32 × Int32 × Fn, q = .inl s' → GW p l e rmX8_best s m args below meth c A D 11 0 0 Q 76 [(0, .ref h0), (1, .int x1), (2, .int x2), (3, .int x3), (4, .int s'.1), (5, .int s'.2.1), (6, .int s'.2.2.1), (7, .int x7), (8, .int s'.2.2.2.1)] [] [MO h0 h1 h2 h3 h4 h5 h6 h7 h8 v0, AI cy 107 h2 v2, AI cy 75 h7 v7, AI cy 3 h8 s'.2.2.2.2]) (K2 : ∀ e' : Int32 × Int32 × Int32 × Fn, q = .inr (e') → GW p l e rmX8_best s m args below meth c A D 11 0 0 Q 198 [(0, .ref h0), (1, .int x1), (2, .int x2), (3, .int x3), (4, .int e'.1), (5, .int e'.2.1), (6, .int e'.2.2.1), (7, .int x7)] [] [MO h0 h1 h2 h3 h4 h5 h6 h7 h8 v0, AI cy 107 h2 v2, AI cy 75 h7 v7, AI cy 3 h8 e'.2.2.2]) : GW p l e rmX8_best s m args below meth c A D 11 0 0 Q 176 [(0, .ref h0), (1, .int x1), (2, .int x2), (3, .int x3), (4, .int x4), (6, .int x6), (7, .int x7), (8, .int x8), (9, .int x9), (10, .int x10)] [.int y0] [MO h0 h1 h2 h3 h4 h5 h6 h7 h8 v0, AI cy 107 h2 v2, AI cy 75 h7 v7, AI cy 3 h8 v8] := by
  unfold f_X8_best_B76_b176 at hf
  refine g_istore (lv' := [(0, .ref h0), (1, .int x1), (2, .int x2), (3, .int x3), (4, .int x4), (5, .int y0), (6, .int x6), (7, .int x7), (8, .int x8), (9, .int x9), (10, .int x10)]) X dX8_best_176 [1, 2, 3, 4, 5, 0, 6, 7, 8, 9, 10] (Nat.le_of_ble_eq_true rfl) rfl ?_
  refine g_iload X dX8_best_178 10 rfl ?_
  refine g_if_eq X 188 dX8_best_180 (by decide) (fun c1405 => ?_) (fun c1405 => ?_)
  · have hf := opos c1405 hf
    refine g_iload X dX8_best_188 6 rfl ?_
    refine g_sub [0, 1, 2, 3, 4, 5, 7, 8] (lv' := [(0, .ref h0), (1, .int x1), (2, .int x2), (3, .int x3), (4, .int x4), (5, .int y0), (7, .int x7), (8, .int x8)]) rfl ?_
    exact j_X8_best_B76_b190 X hr v0 v2 v7 v8 x1 x2 x3 x4 y0 x7 x8 x6 hf K1 K2
  · have hf := oneg c1405 hf
    refine g_iload X dX8_best_183 9 rfl ?_
    refine g_goto X 190 dX8_best_185 (by decide) ?_
    refine g_sub [0, 1, 2, 3, 4, 5, 7, 8] (lv' := [(0, .ref h0), (1, .int x1), (2, .int x2), (3, .int x3), (4, .int x4), (5, .int y0), (7, .int x7), (8, .int x8)]) rfl ?_
    exact j_X8_best_B76_b190 X hr v0 v2 v7 v8 x1 x2 x3 x4 y0 x7 x8 x9 hf K1 K2
def f_X8_best_B76_b162 (v0 : MOv) (v2 : Fn) (v7 : Fn) (v8 : Fn) (x1 : Int32) (x2 : Int32) (x3 : Int32) (x5 : Int32) (x6 : Int32) (x7 : Int32) (x8 : Int32) (x9 : Int32) (x10 : Int32) (y0 : Int32) : Option ((Int32 × Int32 × Int32 × Int32 × Fn) ⊕ ((Int32 × Int32 × Int32 × Fn))) :=
  if x10 = 0 then f_X8_best_B76_b176 v0 v2 v7 v8 x1 x2 x3 y0 x6 x7 x8 x9 x10 x5 else f_X8_best_B76_b176 v0 v2 v7 v8 x1 x2 x3 y0 x6 x7 x8 x9 x10 x8
set_option maxRecDepth 100000 in
set_option maxHeartbeats 4000000 in
theorem j_X8_best_B76_b162 {p : Program} {l : Launch} {e : Env} {s : State} {m : MethodId} {args : Array Value} {below : List Frame} {meth : Method} {c : Code} {A : Nat → Prop} {D : va_G} {cy : Nat → ClassId} {ad : (Nat → Nat) × (Nat → Nat)} {Q : State → Prop} (X : gK p s m args meth c A D cy ad cX8_best 11 RX8) (hr : meth.sig.returnType = (some .int)) {h0 h1 h2 h3 h4 h5 h6 h7 h8 : Nat} (v0 : MOv) (v2 : Fn) (v7 : Fn) (v8 : Fn) (x1 : Int32) (x2 : Int32) (x3 : Int32) (x5 : Int32) (x6 : Int32) (x7 : Int32) (x8 : Int32) (x9 : Int32) (x10 : Int32) (y0 : Int32) {q : (Int32 × Int32 × Int32 × Int32 × Fn) ⊕ ((Int32 × Int32 × Int32 × Fn))} (hf : f_X8_best_B76_b162 v0 v2 v7 v8 x1 x2 x3 x5 x6 x7 x8 x9 x10 y0 = some q) (K1 : ∀ s' : Int32 × Int32 × Int32 × Int32 × Fn, q = .inl s' → GW p l e rmX8_best s m args below meth c A D 11 0 0 Q 76 [(0, .ref h0), (1, .int x1), (2, .int x2), (3, .int x3), (4, .int s'.1), (5, .int s'.2.1), (6, .int s'.2.2.1), (7, .int x7), (8, .int s'.2.2.2.1)] [] [MO h0 h1 h2 h3 h4 h5 h6 h7 h8 v0, AI cy 107 h2 v2, AI cy 75 h7 v7, AI cy 3 h8 s'.2.2.2.2]) (K2 : ∀ e' : Int32 × Int32 × Int32 × Fn, q = .inr (e') → GW p l e rmX8_best s m args below meth c A D 11 0 0 Q 198 [(0, .ref h0), (1, .int x1), (2, .int x2), (3, .int x3), (4, .int e'.1), (5, .int e'.2.1), (6, .int e'.2.2.1), (7, .int x7)] [] [MO h0 h1 h2 h3 h4 h5 h6 h7 h8 v0, AI cy 107 h2 v2, AI cy 75 h7 v7, AI cy 3 h8 e'.2.2.2]) : GW p l e rmX8_best s m args below meth c A D 11 0 0 Q 162 [(0, .ref h0), (1, .int x1), (2, .int x2), (3, .int x3), (5, .int x5), (6, .int x6), (7, .int x7), (8, .int x8), (9, .int x9), (10, .int x10)] [.int y0] [MO h0 h1 h2 h3 h4 h5 h6 h7 h8 v0, AI cy 107 h2 v2, AI cy 75 h7 v7, AI cy 3 h8 v8] := by
  unfold f_X8_best_B76_b162 at hf
  refine g_istore (lv' := [(0, .ref h0), (1, .int x1), (2, .int x2), (3, .int x3), (4, .int y0), (5, .int x5), (6, .int x6), (7, .int x7), (8, .int x8), (9, .int x9), (10, .int x10)]) X dX8_best_162 [1, 2, 3, 4, 0, 5, 6, 7, 8, 9, 10] (Nat.le_of_ble_eq_true rfl) rfl ?_
  refine g_iload X dX8_best_164 10 rfl ?_
  refine g_if_eq X 174 dX8_best_166 (by decide) (fun c1406 => ?_) (fun c1406 => ?_)
  · have hf := opos c1406 hf
    refine g_iload X dX8_best_174 5 rfl ?_
    refine g_sub [0, 1, 2, 3, 4, 6, 7, 8, 9, 10] (lv' := [(0, .ref h0), (1, .int x1), (2, .int x2), (3, .int x3), (4, .int y0), (6, .int x6), (7, .int x7), (8, .int x8), (9, .int x9), (10, .int x10)]) rfl ?_
    exact j_X8_best_B76_b176 X hr v0 v2 v7 v8 x1 x2 x3 y0 x6 x7 x8 x9 x10 x5 hf K1 K2
  · have hf := oneg c1406 hf
    refine g_iload X dX8_best_169 8 rfl ?_
    refine g_goto X 176 dX8_best_171 (by decide) ?_
    refine g_sub [0, 1, 2, 3, 4, 6, 7, 8, 9, 10] (lv' := [(0, .ref h0), (1, .int x1), (2, .int x2), (3, .int x3), (4, .int y0), (6, .int x6), (7, .int x7), (8, .int x8), (9, .int x9), (10, .int x10)]) rfl ?_
    exact j_X8_best_B76_b176 X hr v0 v2 v7 v8 x1 x2 x3 y0 x6 x7 x8 x9 x10 x8 hf K1 K2
def f_X8_best_B76_b148 (v0 : MOv) (v2 : Fn) (v7 : Fn) (v8 : Fn) (x1 : Int32) (x2 : Int32) (x3 : Int32) (x4 : Int32) (x5 : Int32) (x6 : Int32) (x7 : Int32) (x8 : Int32) (x9 : Int32) (y0 : Bool) : Option ((Int32 × Int32 × Int32 × Int32 × Fn) ⊕ ((Int32 × Int32 × Int32 × Fn))) :=
  if (b2i y0) = 0 then f_X8_best_B76_b162 v0 v2 v7 v8 x1 x2 x3 x5 x6 x7 x8 x9 (b2i y0) x4 else f_X8_best_B76_b162 v0 v2 v7 v8 x1 x2 x3 x5 x6 x7 x8 x9 (b2i y0) x7
set_option maxRecDepth 100000 in
set_option maxHeartbeats 4000000 in
theorem j_X8_best_B76_b148 {p : Program} {l : Launch} {e : Env} {s : State} {m : MethodId} {args : Array Value} {below : List Frame} {meth : Method} {c : Code} {A : Nat → Prop} {D : va_G} {cy : Nat → ClassId} {ad : (Nat → Nat) × (Nat → Nat)} {Q : State → Prop} (X : gK p s m args meth c A D cy ad cX8_best 11 RX8) (hr : meth.sig.returnType = (some .int)) {h0 h1 h2 h3 h4 h5 h6 h7 h8 : Nat} (v0 : MOv) (v2 : Fn) (v7 : Fn) (v8 : Fn) (x1 : Int32) (x2 : Int32) (x3 : Int32) (x4 : Int32) (x5 : Int32) (x6 : Int32) (x7 : Int32) (x8 : Int32) (x9 : Int32) (y0 : Bool) {q : (Int32 × Int32 × Int32 × Int32 × Fn) ⊕ ((Int32 × Int32 × Int32 × Fn))} (hf : f_X8_best_B76_b148 v0 v2 v7 v8 x1 x2 x3 x4 x5 x6 x7 x8 x9 y0 = some q) (K1 : ∀ s' : Int32 × Int32 × Int32 × Int32 × Fn, q = .inl s' → GW p l e rmX8_best s m args below meth c A D 11 0 0 Q 76 [(0, .ref h0), (1, .int x1), (2, .int x2), (3, .int x3), (4, .int s'.1), (5, .int s'.2.1), (6, .int s'.2.2.1), (7, .int x7), (8, .int s'.2.2.2.1)] [] [MO h0 h1 h2 h3 h4 h5 h6 h7 h8 v0, AI cy 107 h2 v2, AI cy 75 h7 v7, AI cy 3 h8 s'.2.2.2.2]) (K2 : ∀ e' : Int32 × Int32 × Int32 × Fn, q = .inr (e') → GW p l e rmX8_best s m args below meth c A D 11 0 0 Q 198 [(0, .ref h0), (1, .int x1), (2, .int x2), (3, .int x3), (4, .int e'.1), (5, .int e'.2.1), (6, .int e'.2.2.1), (7, .int x7)] [] [MO h0 h1 h2 h3 h4 h5 h6 h7 h8 v0, AI cy 107 h2 v2, AI cy 75 h7 v7, AI cy 3 h8 e'.2.2.2]) : GW p l e rmX8_best s m args below meth c A D 11 0 0 Q 148 [(0, .ref h0), (1, .int x1), (2, .int x2), (3, .int x3), (4, .int x4), (5, .int x5), (6, .int x6), (7, .int x7), (8, .int x8), (9, .int x9)] [.int (b2i y0)] [MO h0 h1 h2 h3 h4 h5 h6 h7 h8 v0, AI cy 107 h2 v2, AI cy 75 h7 v7, AI cy 3 h8 v8] := by
  unfold f_X8_best_B76_b148 at hf
  refine g_istore (lv' := [(0, .ref h0), (1, .int x1), (2, .int x2), (3, .int x3), (4, .int x4), (5, .int x5), (6, .int x6), (7, .int x7), (8, .int x8), (9, .int x9), (10, .int (b2i y0))]) X dX8_best_148 [1, 2, 3, 4, 5, 6, 7, 8, 9, 10, 0] (Nat.le_of_ble_eq_true rfl) rfl ?_
  refine g_iload X dX8_best_150 10 rfl ?_
  refine g_if_eq X 160 dX8_best_152 (by decide) (fun c1407 => ?_) (fun c1407 => ?_)
  · have hf := opos c1407 hf
    refine g_iload X dX8_best_160 4 rfl ?_
    refine g_sub [0, 1, 2, 3, 5, 6, 7, 8, 9, 10] (lv' := [(0, .ref h0), (1, .int x1), (2, .int x2), (3, .int x3), (5, .int x5), (6, .int x6), (7, .int x7), (8, .int x8), (9, .int x9), (10, .int (b2i y0))]) rfl ?_
    exact j_X8_best_B76_b162 X hr v0 v2 v7 v8 x1 x2 x3 x5 x6 x7 x8 x9 (b2i y0) x4 hf K1 K2
  · have hf := oneg c1407 hf
    refine g_iload X dX8_best_155 7 rfl ?_
    refine g_goto X 162 dX8_best_157 (by decide) ?_
    refine g_sub [0, 1, 2, 3, 5, 6, 7, 8, 9, 10] (lv' := [(0, .ref h0), (1, .int x1), (2, .int x2), (3, .int x3), (5, .int x5), (6, .int x6), (7, .int x7), (8, .int x8), (9, .int x9), (10, .int (b2i y0))]) rfl ?_
    exact j_X8_best_B76_b162 X hr v0 v2 v7 v8 x1 x2 x3 x5 x6 x7 x8 x9 (b2i y0) x7 hf K1 K2
def f_X8_best_B76_b143 (v0 : MOv) (v2 : Fn) (v7 : Fn) (v8 : Fn) (x1 : Int32) (x2 : Int32) (x3 : Int32) (x4 : Int32) (x5 : Int32) (x6 : Int32) (x7 : Int32) (x8 : Int32) (x9 : Int32) : Option ((Int32 × Int32 × Int32 × Int32 × Fn) ⊕ ((Int32 × Int32 × Int32 × Fn))) :=
  f_X8_best_B76_b148 v0 v2 v7 v8 x1 x2 x3 x4 x5 x6 x7 x8 x9 true
set_option maxRecDepth 100000 in
set_option maxHeartbeats 4000000 in
theorem j_X8_best_B76_b143 {p : Program} {l : Launch} {e : Env} {s : State} {m : MethodId} {args : Array Value} {below : List Frame} {meth : Method} {c : Code} {A : Nat → Prop} {D : va_G} {cy : Nat → ClassId} {ad : (Nat → Nat) × (Nat → Nat)} {Q : State → Prop} (X : gK p s m args meth c A D cy ad cX8_best 11 RX8) (hr : meth.sig.returnType = (some .int)) {h0 h1 h2 h3 h4 h5 h6 h7 h8 : Nat} (v0 : MOv) (v2 : Fn) (v7 : Fn) (v8 : Fn) (x1 : Int32) (x2 : Int32) (x3 : Int32) (x4 : Int32) (x5 : Int32) (x6 : Int32) (x7 : Int32) (x8 : Int32) (x9 : Int32) {q : (Int32 × Int32 × Int32 × Int32 × Fn) ⊕ ((Int32 × Int32 × Int32 × Fn))} (hf : f_X8_best_B76_b143 v0 v2 v7 v8 x1 x2 x3 x4 x5 x6 x7 x8 x9 = some q) (K1 : ∀ s' : Int32 × Int32 × Int32 × Int32 × Fn, q = .inl s' → GW p l e rmX8_best s m args below meth c A D 11 0 0 Q 76 [(0, .ref h0), (1, .int x1), (2, .int x2), (3, .int x3), (4, .int s'.1), (5, .int s'.2.1), (6, .int s'.2.2.1), (7, .int x7), (8, .int s'.2.2.2.1)] [] [MO h0 h1 h2 h3 h4 h5 h6 h7 h8 v0, AI cy 107 h2 v2, AI cy 75 h7 v7, AI cy 3 h8 s'.2.2.2.2]) (K2 : ∀ e' : Int32 × Int32 × Int32 × Fn, q = .inr (e') → GW p l e rmX8_best s m args below meth c A D 11 0 0 Q 198 [(0, .ref h0), (1, .int x1), (2, .int x2), (3, .int x3), (4, .int e'.1), (5, .int e'.2.1), (6, .int e'.2.2.1), (7, .int x7)] [] [MO h0 h1 h2 h3 h4 h5 h6 h7 h8 v0, AI cy 107 h2 v2, AI cy 75 h7 v7, AI cy 3 h8 e'.2.2.2]) : GW p l e rmX8_best s m args below meth c A D 11 0 0 Q 143 [(0, .ref h0), (1, .int x1), (2, .int x2), (3, .int x3), (4, .int x4), (5, .int x5), (6, .int x6), (7, .int x7), (8, .int x8), (9, .int x9)] [] [MO h0 h1 h2 h3 h4 h5 h6 h7 h8 v0, AI cy 107 h2 v2, AI cy 75 h7 v7, AI cy 3 h8 v8] := by
  unfold f_X8_best_B76_b143 at hf
  refine g_iconst X (1 : Int32) dX8_best_143 (by decide) ?_
  refine g_goto X 148 dX8_best_144 (by decide) ?_
  exact j_X8_best_B76_b148 X hr v0 v2 v7 v8 x1 x2 x3 x4 x5 x6 x7 x8 x9 true hf K1 K2
def f_X8_best_B76 (v0 : MOv) (v2 : Fn) (v7 : Fn) (x1 : Int32) (x2 : Int32) (x3 : Int32) (x7 : Int32) (z : Int32 × Int32 × Int32 × Int32 × Fn) : Option ((Int32 × Int32 × Int32 × Int32 × Fn) ⊕ ((Int32 × Int32 × Int32 × Fn))) :=
  if x3 ≤ z.2.2.2.1 then some (.inr ((z.1, z.2.1, z.2.2.1, z.2.2.2.2))) else (f_X8_bits x7).bind (fun q1402 => if q1402 = x1 then if (x7 &&& z.2.2.2.1) = 0 then (f_X8_bits z.2.2.2.1).bind (fun q1403 => if q1403 = x1 then (f_X8_worst v0 v7 z.2.2.2.2 x7 z.2.2.2.1 (v2 (2 : Int32).toNatClampNeg) (v2 (3 : Int32).toNatClampNeg)).bind (fun q1404 => if z.2.2.1 = (-1 : Int32) then f_X8_best_B76_b143 v0 v2 v7 q1404.2 x1 x2 x3 z.1 z.2.1 z.2.2.1 x7 z.2.2.2.1 q1404.1 else if z.2.2.1 ≤ q1404.1 then f_X8_best_B76_b148 v0 v2 v7 q1404.2 x1 x2 x3 z.1 z.2.1 z.2.2.1 x7 z.2.2.2.1 q1404.1 false else f_X8_best_B76_b143 v0 v2 v7 q1404.2 x1 x2 x3 z.1 z.2.1 z.2.2.1 x7 z.2.2.2.1 q1404.1) else f_X8_best_B76_b192 v0 v2 v7 z.2.2.2.2 x1 x2 x3 z.1 z.2.1 z.2.2.1 x7 z.2.2.2.1) else f_X8_best_B76_b192 v0 v2 v7 z.2.2.2.2 x1 x2 x3 z.1 z.2.1 z.2.2.1 x7 z.2.2.2.1 else some (.inr ((z.1, z.2.1, z.2.2.1, z.2.2.2.2))))
set_option maxRecDepth 100000 in
set_option maxHeartbeats 4000000 in
theorem b_X8_best_B76 {p : Program} {l : Launch} {e : Env} {s : State} {m : MethodId} {args : Array Value} {below : List Frame} {meth : Method} {c : Code} {A : Nat → Prop} {D : va_G} {cy : Nat → ClassId} {ad : (Nat → Nat) × (Nat → Nat)} {Q : State → Prop} (X : gK p s m args meth c A D cy ad cX8_best 11 RX8) (hr : meth.sig.returnType = (some .int)) {h0 h1 h2 h3 h4 h5 h6 h7 h8 : Nat} (v0 : MOv) (v2 : Fn) (v7 : Fn) (x1 : Int32) (x2 : Int32) (x3 : Int32) (x7 : Int32) (z : Int32 × Int32 × Int32 × Int32 × Fn) {q : (Int32 × Int32 × Int32 × Int32 × Fn) ⊕ ((Int32 × Int32 × Int32 × Fn))} (hf : f_X8_best_B76 v0 v2 v7 x1 x2 x3 x7 z = some q) (K1 : ∀ s' : Int32 × Int32 × Int32 × Int32 × Fn, q = .inl s' → GW p l e rmX8_best s m args below meth c A D 11 0 0 Q 76 [(0, .ref h0), (1, .int x1), (2, .int x2), (3, .int x3), (4, .int s'.1), (5, .int s'.2.1), (6, .int s'.2.2.1), (7, .int x7), (8, .int s'.2.2.2.1)] [] [MO h0 h1 h2 h3 h4 h5 h6 h7 h8 v0, AI cy 107 h2 v2, AI cy 75 h7 v7, AI cy 3 h8 s'.2.2.2.2]) (K2 : ∀ e' : Int32 × Int32 × Int32 × Fn, q = .inr (e') → GW p l e rmX8_best s m args below meth c A D 11 0 0 Q 198 [(0, .ref h0), (1, .int x1), (2, .int x2), (3, .int x3), (4, .int e'.1), (5, .int e'.2.1), (6, .int e'.2.2.1), (7, .int x7)] [] [MO h0 h1 h2 h3 h4 h5 h6 h7 h8 v0, AI cy 107 h2 v2, AI cy 75 h7 v7, AI cy 3 h8 e'.2.2.2]) : GW p l e rmX8_best s m args below meth c A D 11 0 0 Q 76 [(0, .ref h0), (1, .int x1), (2, .int x2), (3, .int x3), (4, .int z.1), (5, .int z.2.1), (6, .int z.2.2.1), (7, .int x7), (8, .int z.2.2.2.1)] [] [MO h0 h1 h2 h3 h4 h5 h6 h7 h8 v0, AI cy 107 h2 v2, AI cy 75 h7 v7, AI cy 3 h8 z.2.2.2.2] := by
  unfold f_X8_best_B76 at hf
  refine g_iload X dX8_best_76 8 rfl ?_
  refine g_iload_n X dX8_best_78 3 rfl rfl ?_
  refine g_icmp_ge X 198 dX8_best_79 (by decide) (fun c1413 => ?_) (fun c1413 => ?_)
  · have hf := opos c1413 hf
    refine g_sub [0, 1, 2, 3, 4, 5, 6, 7] (lv' := [(0, .ref h0), (1, .int x1), (2, .int x2), (3, .int x3), (4, .int z.1), (5, .int z.2.1), (6, .int z.2.2.1), (7, .int x7)]) rfl ?_
    exact K2 (z.1, z.2.1, z.2.2.1, z.2.2.2.2) (Option.some.inj hf).symm
  · have hf := oneg c1413 hf
    refine g_iload X dX8_best_82 7 rfl ?_
    obtain ⟨q1402, hq1402, hf⟩ := obind hf
    refine g_callS (gs' := [MO h0 h1 h2 h3 h4 h5 h6 h7 h8 v0, AI cy 107 h2 v2, AI cy 75 h7 v7, AI cy 3 h8 z.2.2.2.2]) (rest := []) X dX8_best_84 (c_X8_bits l D cy ad x7 hq1402) mf_X8_bits ms_X8_bits lkm_X8_57 ⟨(Nat.le_of_ble_eq_true rfl), (Nat.le_of_ble_eq_true rfl), (Nat.le_of_ble_eq_true rfl), (Nat.le_of_ble_eq_true rfl)⟩ [0, 1, 2, 3] _ (by decide : [0, 1, 2, 3].Perm (List.range 4)) rfl (by decide : [0, 1, 2, 3].Perm (List.range 4)) rfl (Nat.le_of_ble_eq_true rfl) rfl ?_
    refine g_iload_n X dX8_best_87 1 rfl rfl ?_
    refine g_icmp_ne X 198 dX8_best_88 (by decide) (fun c1412 => ?_) (fun c1412 => ?_)
    · have hf := oneg c1412 hf
      refine g_sub [0, 1, 2, 3, 4, 5, 6, 7] (lv' := [(0, .ref h0), (1, .int x1), (2, .int x2), (3, .int x3), (4, .int z.1), (5, .int z.2.1), (6, .int z.2.2.1), (7, .int x7)]) rfl ?_
      exact K2 (z.1, z.2.1, z.2.2.1, z.2.2.2.2) (Option.some.inj hf).symm
    · have hf := opos c1412 hf
      refine g_iload X dX8_best_91 7 rfl ?_
      refine g_iload X dX8_best_93 8 rfl ?_
      refine g_iand X dX8_best_95 ?_
      refine g_if_ne X 192 dX8_best_96 (by decide) (fun c1411 => ?_) (fun c1411 => ?_)
      · have hf := oneg c1411 hf
        exact j_X8_best_B76_b192 X hr v0 v2 v7 z.2.2.2.2 x1 x2 x3 z.1 z.2.1 z.2.2.1 x7 z.2.2.2.1 hf K1 K2
      · have hf := opos c1411 hf
        refine g_iload X dX8_best_99 8 rfl ?_
        obtain ⟨q1403, hq1403, hf⟩ := obind hf
        refine g_callS (gs' := [MO h0 h1 h2 h3 h4 h5 h6 h7 h8 v0, AI cy 107 h2 v2, AI cy 75 h7 v7, AI cy 3 h8 z.2.2.2.2]) (rest := []) X dX8_best_101 (c_X8_bits l D cy ad z.2.2.2.1 hq1403) mf_X8_bits ms_X8_bits lkm_X8_57 ⟨(Nat.le_of_ble_eq_true rfl), (Nat.le_of_ble_eq_true rfl), (Nat.le_of_ble_eq_true rfl), (Nat.le_of_ble_eq_true rfl)⟩ [0, 1, 2, 3] _ (by decide : [0, 1, 2, 3].Perm (List.range 4)) rfl (by decide : [0, 1, 2, 3].Perm (List.range 4)) rfl (Nat.le_of_ble_eq_true rfl) rfl ?_
        refine g_iload_n X dX8_best_104 1 rfl rfl ?_
        refine g_icmp_ne X 192 dX8_best_105 (by decide) (fun c1410 => ?_) (fun c1410 => ?_)
        · have hf := oneg c1410 hf
          exact j_X8_best_B76_b192 X hr v0 v2 v7 z.2.2.2.2 x1 x2 x3 z.1 z.2.1 z.2.2.1 x7 z.2.2.2.1 hf K1 K2
        · have hf := opos c1410 hf
          refine g_aload_n X dX8_best_108 0 rfl rfl ?_
          refine g_iload X dX8_best_109 7 rfl ?_
          refine g_iload X dX8_best_111 8 rfl ?_
          refine g_aload_n X dX8_best_113 0 rfl rfl ?_
          refine g_get X dX8_best_114 ck_X8 0 0 3 rfl rfl (Nat.le_of_ble_eq_true rfl) lkf_X8_13 rfl ?_
          refine g_iconst X (2 : Int32) dX8_best_117 (by decide) ?_
          refine g_iaload X dX8_best_118 1 0 rfl rfl (by decide) ?_
          refine g_aload_n X dX8_best_119 0 rfl rfl ?_
          refine g_get X dX8_best_120 ck_X8 0 0 3 rfl rfl (Nat.le_of_ble_eq_true rfl) lkf_X8_13 rfl ?_
          refine g_iconst X (3 : Int32) dX8_best_123 (by decide) ?_
          refine g_iaload X dX8_best_124 1 0 rfl rfl (by decide) ?_
          obtain ⟨q1404, hq1404, hf⟩ := obind hf
          refine g_callV (gs' := [MO h0 h1 h2 h3 h4 h5 h6 h7 h8 v0, AI cy 107 h2 v2, AI cy 75 h7 v7, AI cy 3 h8 q1404.2]) (rest := []) X dX8_best_125 (c_X8_worst l D cy ad h0 h1 h2 h3 h4 h5 h6 h7 h8 v0 v7 z.2.2.2.2 x7 z.2.2.2.1 (v2 (2 : Int32).toNatClampNeg) (v2 (3 : Int32).toNatClampNeg) hq1404) mf_X8_worst mv_X8_worst lkm_X8_196 ⟨(Nat.le_of_ble_eq_true rfl), (Nat.le_of_ble_eq_true rfl), (Nat.le_of_ble_eq_true rfl), (Nat.le_of_ble_eq_true rfl)⟩ 0 0 rfl rfl rfl rfl [0, 2, 3, 1] _ (by decide : [0, 2, 3, 1].Perm (List.range 4)) rfl (by decide : [0, 2, 3, 1].Perm (List.range 4)) rfl (Nat.le_of_ble_eq_true rfl) rfl ?_
          refine g_istore (lv' := [(0, .ref h0), (1, .int x1), (2, .int x2), (3, .int x3), (4, .int z.1), (5, .int z.2.1), (6, .int z.2.2.1), (7, .int x7), (8, .int z.2.2.2.1), (9, .int q1404.1)]) X dX8_best_128 [1, 2, 3, 4, 5, 6, 7, 8, 9, 0] (Nat.le_of_ble_eq_true rfl) rfl ?_
          refine g_iload X dX8_best_130 6 rfl ?_
          refine g_iconst X (-1 : Int32) dX8_best_132 (by decide) ?_
          refine g_icmp_eq X 143 dX8_best_133 (by decide) (fun c1409 => ?_) (fun c1409 => ?_)
          · have hf := opos c1409 hf
            exact j_X8_best_B76_b143 X hr v0 v2 v7 q1404.2 x1 x2 x3 z.1 z.2.1 z.2.2.1 x7 z.2.2.2.1 q1404.1 hf K1 K2
          · have hf := oneg c1409 hf
            refine g_iload X dX8_best_136 9 rfl ?_
            refine g_iload X dX8_best_138 6 rfl ?_
            refine g_icmp_ge X 147 dX8_best_140 (by decide) (fun c1408 => ?_) (fun c1408 => ?_)
            · have hf := opos c1408 hf
              refine g_iconst X (0 : Int32) dX8_best_147 (by decide) ?_
              exact j_X8_best_B76_b148 X hr v0 v2 v7 q1404.2 x1 x2 x3 z.1 z.2.1 z.2.2.1 x7 z.2.2.2.1 q1404.1 false hf K1 K2
            · have hf := oneg c1408 hf
              exact j_X8_best_B76_b143 X hr v0 v2 v7 q1404.2 x1 x2 x3 z.1 z.2.1 z.2.2.1 x7 z.2.2.2.1 q1404.1 hf K1 K2
set_option maxRecDepth 100000 in
set_option maxHeartbeats 4000000 in
theorem w_X8_best_B76 {p : Program} {l : Launch} {e : Env} {s : State} {m : MethodId} {args : Array Value} {below : List Frame} {meth : Method} {c : Code} {A : Nat → Prop} {D : va_G} {cy : Nat → ClassId} {ad : (Nat → Nat) × (Nat → Nat)} {Q : State → Prop} (X : gK p s m args meth c A D cy ad cX8_best 11 RX8) (hr : meth.sig.returnType = (some .int)) {h0 h1 h2 h3 h4 h5 h6 h7 h8 : Nat} (v0 : MOv) (v2 : Fn) (v7 : Fn) (x1 : Int32) (x2 : Int32) (x3 : Int32) (x7 : Int32) {n : Nat} {z : Int32 × Int32 × Int32 × Int32 × Fn} {q : (Int32 × Int32 × Int32 × Fn)} (hf : itl (f_X8_best_B76 v0 v2 v7 x1 x2 x3 x7) n z = some q) (K2 : GW p l e rmX8_best s m args below meth c A D 11 0 0 Q 198 [(0, .ref h0), (1, .int x1), (2, .int x2), (3, .int x3), (4, .int q.1), (5, .int q.2.1), (6, .int q.2.2.1), (7, .int x7)] [] [MO h0 h1 h2 h3 h4 h5 h6 h7 h8 v0, AI cy 107 h2 v2, AI cy 75 h7 v7, AI cy 3 h8 q.2.2.2]) : GW p l e rmX8_best s m args below meth c A D 11 0 0 Q 76 [(0, .ref h0), (1, .int x1), (2, .int x2), (3, .int x3), (4, .int z.1), (5, .int z.2.1), (6, .int z.2.2.1), (7, .int x7), (8, .int z.2.2.2.1)] [] [MO h0 h1 h2 h3 h4 h5 h6 h7 h8 v0, AI cy 107 h2 v2, AI cy 75 h7 v7, AI cy 3 h8 z.2.2.2.2] :=
  itl_ind (f := f_X8_best_B76 v0 v2 v7 x1 x2 x3 x7) (I := fun z => GW p l e rmX8_best s m args below meth c A D 11 0 0 Q 76 [(0, .ref h0), (1, .int x1), (2, .int x2), (3, .int x3), (4, .int z.1), (5, .int z.2.1), (6, .int z.2.2.1), (7, .int x7), (8, .int z.2.2.2.1)] [] [MO h0 h1 h2 h3 h4 h5 h6 h7 h8 v0, AI cy 107 h2 v2, AI cy 75 h7 v7, AI cy 3 h8 z.2.2.2.2]) (J := (fun q => GW p l e rmX8_best s m args below meth c A D 11 0 0 Q 198 [(0, .ref h0), (1, .int x1), (2, .int x2), (3, .int x3), (4, .int q.1), (5, .int q.2.1), (6, .int q.2.2.1), (7, .int x7)] [] [MO h0 h1 h2 h3 h4 h5 h6 h7 h8 v0, AI cy 107 h2 v2, AI cy 75 h7 v7, AI cy 3 h8 q.2.2.2])) (fun z x h k1 k2 => b_X8_best_B76 X hr v0 v2 v7 x1 x2 x3 x7 z h (fun s' hs => k1 s' hs) (fun e' he => k2 e' he)) n z q hf K2
def f_X8_best_B67_b198 (v0 : MOv) (v2 : Fn) (v7 : Fn) (v8 : Fn) (x1 : Int32) (x2 : Int32) (x3 : Int32) (x4 : Int32) (x5 : Int32) (x6 : Int32) (x7 : Int32) : Option ((Int32 × Int32 × Int32 × Int32 × Fn) ⊕ ((Int32 × Int32 × Int32 × Fn))) :=
  some (.inl (x4, x5, x6, (x7 + (1 : Int32)), v8))
set_option maxRecDepth 100000 in
set_option maxHeartbeats 4000000 in
theorem j_X8_best_B67_b198 {p : Program} {l : Launch} {e : Env} {s : State} {m : MethodId} {args : Array Value} {below : List Frame} {meth : Method} {c : Code} {A : Nat → Prop} {D : va_G} {cy : Nat → ClassId} {ad : (Nat → Nat) × (Nat → Nat)} {Q : State → Prop} (X : gK p s m args meth c A D cy ad cX8_best 11 RX8) (hr : meth.sig.returnType = (some .int)) {h0 h1 h2 h3 h4 h5 h6 h7 h8 : Nat} (v0 : MOv) (v2 : Fn) (v7 : Fn) (v8 : Fn) (x1 : Int32) (x2 : Int32) (x3 : Int32) (x4 : Int32) (x5 : Int32) (x6 : Int32) (x7 : Int32) {q : (Int32 × Int32 × Int32 × Int32 × Fn) ⊕ ((Int32 × Int32 × Int32 × Fn))} (hf : f_X8_best_B67_b198 v0 v2 v7 v8 x1 x2 x3 x4 x5 x6 x7 = some q) (K1 : ∀ s' : Int32 × Int32 × Int32 × Int32 × Fn, q = .inl s' → GW p l e rmX8_best s m args below meth c A D 11 0 0 Q 67 [(0, .ref h0), (1, .int x1), (2, .int x2), (3, .int x3), (4, .int s'.1), (5, .int s'.2.1), (6, .int s'.2.2.1), (7, .int s'.2.2.2.1)] [] [MO h0 h1 h2 h3 h4 h5 h6 h7 h8 v0, AI cy 107 h2 v2, AI cy 75 h7 v7, AI cy 3 h8 s'.2.2.2.2]) (K2 : ∀ e' : Int32 × Int32 × Int32 × Fn, q = .inr (e') → GW p l e rmX8_best s m args below meth c A D 11 0 0 Q 204 [(2, .int x2), (4, .int e'.1), (5, .int e'.2.1), (6, .int e'.2.2.1)] [] [MO h0 h1 h2 h3 h4 h5 h6 h7 h8 v0, AI cy 107 h2 v2, AI cy 75 h7 v7, AI cy 3 h8 e'.2.2.2]) : GW p l e rmX8_best s m args below meth c A D 11 0 0 Q 198 [(0, .ref h0), (1, .int x1), (2, .int x2), (3, .int x3), (4, .int x4), (5, .int x5), (6, .int x6), (7, .int x7)] [] [MO h0 h1 h2 h3 h4 h5 h6 h7 h8 v0, AI cy 107 h2 v2, AI cy 75 h7 v7, AI cy 3 h8 v8] := by
  unfold f_X8_best_B67_b198 at hf
  refine g_iinc (lv' := [(0, .ref h0), (1, .int x1), (2, .int x2), (3, .int x3), (4, .int x4), (5, .int x5), (6, .int x6), (7, .int (x7 + (1 : Int32)))]) (v := (1 : Int32)) X dX8_best_198 7 rfl (by decide) [1, 2, 3, 4, 5, 6, 7, 0] (Nat.le_of_ble_eq_true rfl) rfl ?_
  refine g_goto X 67 dX8_best_201 (by decide) ?_
  exact K1 (x4, x5, x6, (x7 + (1 : Int32)), v8) (Option.some.inj hf).symm
def f_X8_best_B67 (v0 : MOv) (v2 : Fn) (v7 : Fn) (x1 : Int32) (x2 : Int32) (x3 : Int32) (z : Int32 × Int32 × Int32 × Int32 × Fn) : Option ((Int32 × Int32 × Int32 × Int32 × Fn) ⊕ ((Int32 × Int32 × Int32 × Fn))) :=
  if x3 ≤ z.2.2.2.1 then some (.inr ((z.1, z.2.1, z.2.2.1, z.2.2.2.2))) else (itl (f_X8_best_B76 v0 v2 v7 x1 x2 x3 z.2.2.2.1) FU (z.1, z.2.1, z.2.2.1, (0 : Int32), z.2.2.2.2)).bind (fun q1414 => f_X8_best_B67_b198 v0 v2 v7 q1414.2.2.2 x1 x2 x3 q1414.1 q1414.2.1 q1414.2.2.1 z.2.2.2.1)
set_option maxRecDepth 100000 in
set_option maxHeartbeats 4000000 in
theorem b_X8_best_B67 {p : Program} {l : Launch} {e : Env} {s : State} {m : MethodId} {args : Array Value} {below : List Frame} {meth : Method} {c : Code} {A : Nat → Prop} {D : va_G} {cy : Nat → ClassId} {ad : (Nat → Nat) × (Nat → Nat)} {Q : State → Prop} (X : gK p s m args meth c A D cy ad cX8_best 11 RX8) (hr : meth.sig.returnType = (some .int)) {h0 h1 h2 h3 h4 h5 h6 h7 h8 : Nat} (v0 : MOv) (v2 : Fn) (v7 : Fn) (x1 : Int32) (x2 : Int32) (x3 : Int32) (z : Int32 × Int32 × Int32 × Int32 × Fn) {q : (Int32 × Int32 × Int32 × Int32 × Fn) ⊕ ((Int32 × Int32 × Int32 × Fn))} (hf : f_X8_best_B67 v0 v2 v7 x1 x2 x3 z = some q) (K1 : ∀ s' : Int32 × Int32 × Int32 × Int32 × Fn, q = .inl s' → GW p l e rmX8_best s m args below meth c A D 11 0 0 Q 67 [(0, .ref h0), (1, .int x1), (2, .int x2), (3, .int x3), (4, .int s'.1), (5, .int s'.2.1), (6, .int s'.2.2.1), (7, .int s'.2.2.2.1)] [] [MO h0 h1 h2 h3 h4 h5 h6 h7 h8 v0, AI cy 107 h2 v2, AI cy 75 h7 v7, AI cy 3 h8 s'.2.2.2.2]) (K2 : ∀ e' : Int32 × Int32 × Int32 × Fn, q = .inr (e') → GW p l e rmX8_best s m args below meth c A D 11 0 0 Q 204 [(2, .int x2), (4, .int e'.1), (5, .int e'.2.1), (6, .int e'.2.2.1)] [] [MO h0 h1 h2 h3 h4 h5 h6 h7 h8 v0, AI cy 107 h2 v2, AI cy 75 h7 v7, AI cy 3 h8 e'.2.2.2]) : GW p l e rmX8_best s m args below meth c A D 11 0 0 Q 67 [(0, .ref h0), (1, .int x1), (2, .int x2), (3, .int x3), (4, .int z.1), (5, .int z.2.1), (6, .int z.2.2.1), (7, .int z.2.2.2.1)] [] [MO h0 h1 h2 h3 h4 h5 h6 h7 h8 v0, AI cy 107 h2 v2, AI cy 75 h7 v7, AI cy 3 h8 z.2.2.2.2] := by
  unfold f_X8_best_B67 at hf
  refine g_iload X dX8_best_67 7 rfl ?_
  refine g_iload_n X dX8_best_69 3 rfl rfl ?_
  refine g_icmp_ge X 204 dX8_best_70 (by decide) (fun c1415 => ?_) (fun c1415 => ?_)
  · have hf := opos c1415 hf
    refine g_sub [2, 4, 5, 6] (lv' := [(2, .int x2), (4, .int z.1), (5, .int z.2.1), (6, .int z.2.2.1)]) rfl ?_
    exact K2 (z.1, z.2.1, z.2.2.1, z.2.2.2.2) (Option.some.inj hf).symm
  · have hf := oneg c1415 hf
    refine g_iconst X (0 : Int32) dX8_best_73 (by decide) ?_
    refine g_istore (lv' := [(0, .ref h0), (1, .int x1), (2, .int x2), (3, .int x3), (4, .int z.1), (5, .int z.2.1), (6, .int z.2.2.1), (7, .int z.2.2.2.1), (8, .int (0 : Int32))]) X dX8_best_74 [1, 2, 3, 4, 5, 6, 7, 8, 0] (Nat.le_of_ble_eq_true rfl) rfl ?_
    obtain ⟨q1414, hq1414, hf⟩ := obind hf
    refine w_X8_best_B76 X hr v0 v2 v7 x1 x2 x3 z.2.2.2.1 hq1414 ?_
    exact j_X8_best_B67_b198 X hr v0 v2 v7 q1414.2.2.2 x1 x2 x3 q1414.1 q1414.2.1 q1414.2.2.1 z.2.2.2.1 hf K1 K2
set_option maxRecDepth 100000 in
set_option maxHeartbeats 4000000 in
theorem w_X8_best_B67 {p : Program} {l : Launch} {e : Env} {s : State} {m : MethodId} {args : Array Value} {below : List Frame} {meth : Method} {c : Code} {A : Nat → Prop} {D : va_G} {cy : Nat → ClassId} {ad : (Nat → Nat) × (Nat → Nat)} {Q : State → Prop} (X : gK p s m args meth c A D cy ad cX8_best 11 RX8) (hr : meth.sig.returnType = (some .int)) {h0 h1 h2 h3 h4 h5 h6 h7 h8 : Nat} (v0 : MOv) (v2 : Fn) (v7 : Fn) (x1 : Int32) (x2 : Int32) (x3 : Int32) {n : Nat} {z : Int32 × Int32 × Int32 × Int32 × Fn} {q : (Int32 × Int32 × Int32 × Fn)} (hf : itl (f_X8_best_B67 v0 v2 v7 x1 x2 x3) n z = some q) (K2 : GW p l e rmX8_best s m args below meth c A D 11 0 0 Q 204 [(2, .int x2), (4, .int q.1), (5, .int q.2.1), (6, .int q.2.2.1)] [] [MO h0 h1 h2 h3 h4 h5 h6 h7 h8 v0, AI cy 107 h2 v2, AI cy 75 h7 v7, AI cy 3 h8 q.2.2.2]) : GW p l e rmX8_best s m args below meth c A D 11 0 0 Q 67 [(0, .ref h0), (1, .int x1), (2, .int x2), (3, .int x3), (4, .int z.1), (5, .int z.2.1), (6, .int z.2.2.1), (7, .int z.2.2.2.1)] [] [MO h0 h1 h2 h3 h4 h5 h6 h7 h8 v0, AI cy 107 h2 v2, AI cy 75 h7 v7, AI cy 3 h8 z.2.2.2.2] :=
  itl_ind (f := f_X8_best_B67 v0 v2 v7 x1 x2 x3) (I := fun z => GW p l e rmX8_best s m args below meth c A D 11 0 0 Q 67 [(0, .ref h0), (1, .int x1), (2, .int x2), (3, .int x3), (4, .int z.1), (5, .int z.2.1), (6, .int z.2.2.1), (7, .int z.2.2.2.1)] [] [MO h0 h1 h2 h3 h4 h5 h6 h7 h8 v0, AI cy 107 h2 v2, AI cy 75 h7 v7, AI cy 3 h8 z.2.2.2.2]) (J := (fun q => GW p l e rmX8_best s m args below meth c A D 11 0 0 Q 204 [(2, .int x2), (4, .int q.1), (5, .int q.2.1), (6, .int q.2.2.1)] [] [MO h0 h1 h2 h3 h4 h5 h6 h7 h8 v0, AI cy 107 h2 v2, AI cy 75 h7 v7, AI cy 3 h8 q.2.2.2])) (fun z x h k1 k2 => b_X8_best_B67 X hr v0 v2 v7 x1 x2 x3 z h (fun s' hs => k1 s' hs) (fun e' he => k2 e' he)) n z q hf K2
def f_X8_best_b30 (v0 : MOv) (v2 : Fn) (v7 : Fn) (v8 : Fn) (x1 : Int32) (x2 : Int32) (y0 : Bool) : Option (Int32 × MOv × Fn × Fn) :=
  (f_X8_refused v0 (b2i y0)).bind (fun q1400 => if (b2i q1400.1) = 0 then (f_X8_gather q1400.2 v7 v2).bind (fun q1401 => (itl (f_X8_best_B67 q1401.1 v2 q1401.2 x1 x2 ((1 : Int32) <<< ((v2 (0 : Int32).toNatClampNeg) &&& 31))) FU ((-1 : Int32), (-1 : Int32), (-1 : Int32), (0 : Int32), v8)).bind (fun q1416 => if x2 = 0 then some (q1416.1, q1401.1, q1401.2, q1416.2.2.2) else if x2 = (1 : Int32) then some (q1416.2.1, q1401.1, q1401.2, q1416.2.2.2) else some (q1416.2.2.1, q1401.1, q1401.2, q1416.2.2.2))) else some ((0 : Int32), q1400.2, v7, v8))
set_option maxRecDepth 100000 in
set_option maxHeartbeats 4000000 in
theorem j_X8_best_b30 {p : Program} {l : Launch} {e : Env} {s : State} {m : MethodId} {args : Array Value} {below : List Frame} {meth : Method} {c : Code} {A : Nat → Prop} {D : va_G} {cy : Nat → ClassId} {ad : (Nat → Nat) × (Nat → Nat)} (X : gK p s m args meth c A D cy ad cX8_best 11 RX8) (hr : meth.sig.returnType = (some .int)) {h0 h1 h2 h3 h4 h5 h6 h7 h8 : Nat} (v0 : MOv) (v2 : Fn) (v7 : Fn) (v8 : Fn) (x1 : Int32) (x2 : Int32) (y0 : Bool) {q : Int32 × MOv × Fn × Fn} (hf : f_X8_best_b30 v0 v2 v7 v8 x1 x2 y0 = some q) : GW p l e rmX8_best s m args below meth c A D 11 0 0 (MQ below (cmQ D cy A (some (.int q.1)) ([MO h0 h1 h2 h3 h4 h5 h6 h7 h8 q.2.1, AI cy 107 h2 v2, AI cy 75 h7 q.2.2.1, AI cy 3 h8 q.2.2.2] : List va_W).flatten) args s 0 0 A) 30 [(0, .ref h0), (1, .int x1), (2, .int x2)] [.int (b2i y0), .ref h0] [MO h0 h1 h2 h3 h4 h5 h6 h7 h8 v0, AI cy 107 h2 v2, AI cy 75 h7 v7, AI cy 3 h8 v8] := by
  unfold f_X8_best_b30 at hf
  obtain ⟨q1400, hq1400, hf⟩ := obind hf
  refine g_callV (gs' := [MO h0 h1 h2 h3 h4 h5 h6 h7 h8 q1400.2, AI cy 107 h2 v2, AI cy 75 h7 v7, AI cy 3 h8 v8]) (rest := []) X dX8_best_30 (c_X8_refused l D cy ad h0 h1 h2 h3 h4 h5 h6 h7 h8 v0 (b2i y0) hq1400) mf_X8_refused mv_X8_refused lkm_X8_102 ⟨(Nat.le_of_ble_eq_true rfl), (Nat.le_of_ble_eq_true rfl), (Nat.le_of_ble_eq_true rfl), (Nat.le_of_ble_eq_true rfl)⟩ 0 0 rfl rfl rfl rfl [0, 1, 2, 3] _ (by decide : [0, 1, 2, 3].Perm (List.range 4)) rfl (by decide : [0, 1, 2, 3].Perm (List.range 4)) rfl (Nat.le_of_ble_eq_true rfl) rfl ?_
  refine g_if_eq X 38 dX8_best_33 (by decide) (fun c1419 => ?_) (fun c1419 => ?_)
  · have hf := opos c1419 hf
    refine g_aload_n X dX8_best_38 0 rfl rfl ?_
    refine g_aload_n X dX8_best_39 0 rfl rfl ?_
    refine g_get X dX8_best_40 ck_X8 0 0 3 rfl rfl (Nat.le_of_ble_eq_true rfl) lkf_X8_13 rfl ?_
    obtain ⟨q1401, hq1401, hf⟩ := obind hf
    refine g_callV (gs' := [MO h0 h1 h2 h3 h4 h5 h6 h7 h8 q1401.1, AI cy 107 h2 v2, AI cy 75 h7 q1401.2, AI cy 3 h8 v8]) (rest := []) X dX8_best_43 (c_X8_gather l D cy ad h0 h1 h2 h3 h4 h5 h6 h7 h8 h2 q1400.2 v7 v2 hq1401) mf_X8_gather mv_X8_gather lkm_X8_193 ⟨(Nat.le_of_ble_eq_true rfl), (Nat.le_of_ble_eq_true rfl), (Nat.le_of_ble_eq_true rfl), (Nat.le_of_ble_eq_true rfl)⟩ 0 0 rfl rfl rfl rfl [0, 2, 1, 3] _ (by decide : [0, 2, 1, 3].Perm (List.range 4)) rfl (by decide : [0, 2, 1, 3].Perm (List.range 4)) rfl (Nat.le_of_ble_eq_true rfl) rfl ?_
    refine g_iconst X (1 : Int32) dX8_best_46 (by decide) ?_
    refine g_aload_n X dX8_best_47 0 rfl rfl ?_
    refine g_get X dX8_best_48 ck_X8 0 0 3 rfl rfl (Nat.le_of_ble_eq_true rfl) lkf_X8_13 rfl ?_
    refine g_iconst X (0 : Int32) dX8_best_51 (by decide) ?_
    refine g_iaload X dX8_best_52 1 0 rfl rfl (by decide) ?_
    refine g_ishl X dX8_best_53 ?_
    refine g_istore_n (lv' := [(0, .ref h0), (1, .int x1), (2, .int x2), (3, .int ((1 : Int32) <<< ((v2 (0 : Int32).toNatClampNeg) &&& 31)))]) X dX8_best_54 [1, 2, 3, 0] rfl (Nat.le_of_ble_eq_true rfl) rfl ?_
    refine g_iconst X (-1 : Int32) dX8_best_55 (by decide) ?_
    refine g_istore (lv' := [(0, .ref h0), (1, .int x1), (2, .int x2), (3, .int ((1 : Int32) <<< ((v2 (0 : Int32).toNatClampNeg) &&& 31))), (4, .int (-1 : Int32))]) X dX8_best_56 [1, 2, 3, 4, 0] (Nat.le_of_ble_eq_true rfl) rfl ?_
    refine g_iconst X (-1 : Int32) dX8_best_58 (by decide) ?_
    refine g_istore (lv' := [(0, .ref h0), (1, .int x1), (2, .int x2), (3, .int ((1 : Int32) <<< ((v2 (0 : Int32).toNatClampNeg) &&& 31))), (4, .int (-1 : Int32)), (5, .int (-1 : Int32))]) X dX8_best_59 [1, 2, 3, 4, 5, 0] (Nat.le_of_ble_eq_true rfl) rfl ?_
    refine g_iconst X (-1 : Int32) dX8_best_61 (by decide) ?_
    refine g_istore (lv' := [(0, .ref h0), (1, .int x1), (2, .int x2), (3, .int ((1 : Int32) <<< ((v2 (0 : Int32).toNatClampNeg) &&& 31))), (4, .int (-1 : Int32)), (5, .int (-1 : Int32)), (6, .int (-1 : Int32))]) X dX8_best_62 [1, 2, 3, 4, 5, 6, 0] (Nat.le_of_ble_eq_true rfl) rfl ?_
    refine g_iconst X (0 : Int32) dX8_best_64 (by decide) ?_
    refine g_istore (lv' := [(0, .ref h0), (1, .int x1), (2, .int x2), (3, .int ((1 : Int32) <<< ((v2 (0 : Int32).toNatClampNeg) &&& 31))), (4, .int (-1 : Int32)), (5, .int (-1 : Int32)), (6, .int (-1 : Int32)), (7, .int (0 : Int32))]) X dX8_best_65 [1, 2, 3, 4, 5, 6, 7, 0] (Nat.le_of_ble_eq_true rfl) rfl ?_
    obtain ⟨q1416, hq1416, hf⟩ := obind hf
    refine w_X8_best_B67 X hr q1401.1 v2 q1401.2 x1 x2 ((1 : Int32) <<< ((v2 (0 : Int32).toNatClampNeg) &&& 31)) hq1416 ?_
    refine g_iload_n X dX8_best_204 0 rfl rfl ?_
    refine g_if_ne X 213 dX8_best_205 (by decide) (fun c1418 => ?_) (fun c1418 => ?_)
    · have hf := oneg c1418 hf
      refine g_iload_n X dX8_best_213 0 rfl rfl ?_
      refine g_iconst X (1 : Int32) dX8_best_214 (by decide) ?_
      refine g_icmp_ne X 223 dX8_best_215 (by decide) (fun c1417 => ?_) (fun c1417 => ?_)
      · have hf := oneg c1417 hf
        refine g_iload X dX8_best_223 3 rfl ?_
        have hf := Option.some.inj hf
        subst hf
        exact g_iret X hr dX8_best_225
      · have hf := opos c1417 hf
        refine g_iload X dX8_best_218 2 rfl ?_
        refine g_goto X 225 dX8_best_220 (by decide) ?_
        have hf := Option.some.inj hf
        subst hf
        exact g_iret X hr dX8_best_225
    · have hf := opos c1418 hf
      refine g_iload X dX8_best_208 1 rfl ?_
      refine g_goto X 225 dX8_best_210 (by decide) ?_
      have hf := Option.some.inj hf
      subst hf
      exact g_iret X hr dX8_best_225
  · have hf := oneg c1419 hf
    refine g_iconst X (0 : Int32) dX8_best_36 (by decide) ?_
    have hf := Option.some.inj hf
    subst hf
    exact g_iret X hr dX8_best_37
def f_X8_best_b29 (v0 : MOv) (v2 : Fn) (v7 : Fn) (v8 : Fn) (x1 : Int32) (x2 : Int32) : Option (Int32 × MOv × Fn × Fn) :=
  f_X8_best_b30 v0 v2 v7 v8 x1 x2 true
set_option maxRecDepth 100000 in
set_option maxHeartbeats 4000000 in
theorem j_X8_best_b29 {p : Program} {l : Launch} {e : Env} {s : State} {m : MethodId} {args : Array Value} {below : List Frame} {meth : Method} {c : Code} {A : Nat → Prop} {D : va_G} {cy : Nat → ClassId} {ad : (Nat → Nat) × (Nat → Nat)} (X : gK p s m args meth c A D cy ad cX8_best 11 RX8) (hr : meth.sig.returnType = (some .int)) {h0 h1 h2 h3 h4 h5 h6 h7 h8 : Nat} (v0 : MOv) (v2 : Fn) (v7 : Fn) (v8 : Fn) (x1 : Int32) (x2 : Int32) {q : Int32 × MOv × Fn × Fn} (hf : f_X8_best_b29 v0 v2 v7 v8 x1 x2 = some q) : GW p l e rmX8_best s m args below meth c A D 11 0 0 (MQ below (cmQ D cy A (some (.int q.1)) ([MO h0 h1 h2 h3 h4 h5 h6 h7 h8 q.2.1, AI cy 107 h2 v2, AI cy 75 h7 q.2.2.1, AI cy 3 h8 q.2.2.2] : List va_W).flatten) args s 0 0 A) 29 [(0, .ref h0), (1, .int x1), (2, .int x2)] [.ref h0] [MO h0 h1 h2 h3 h4 h5 h6 h7 h8 v0, AI cy 107 h2 v2, AI cy 75 h7 v7, AI cy 3 h8 v8] := by
  unfold f_X8_best_b29 at hf
  refine g_iconst X (1 : Int32) dX8_best_29 (by decide) ?_
  exact j_X8_best_b30 X hr v0 v2 v7 v8 x1 x2 true hf
def f_X8_best (v0 : MOv) (v2 : Fn) (v7 : Fn) (v8 : Fn) (p1 : Int32) (p2 : Int32) : Option (Int32 × MOv × Fn × Fn) :=
  (f_X8_in (p1.toInt64) (1 : Int64) (2 : Int64)).bind (fun q1399 => if (b2i q1399) = 0 then f_X8_best_b29 v0 v2 v7 v8 p1 p2 else (f_X8_in (p2.toInt64) (0 : Int64) (2 : Int64)).bind (fun q1420 => if (b2i q1420) = 0 then f_X8_best_b29 v0 v2 v7 v8 p1 p2 else f_X8_best_b30 v0 v2 v7 v8 p1 p2 false))
set_option maxRecDepth 100000 in
set_option maxHeartbeats 4000000 in
theorem c_X8_best (l : Launch) (D : va_G) (cy : Nat → ClassId) (ad : (Nat → Nat) × (Nat → Nat)) (h0 : Nat) (h1 : Nat) (h2 : Nat) (h3 : Nat) (h4 : Nat) (h5 : Nat) (h6 : Nat) (h7 : Nat) (h8 : Nat) (v0 : MOv) (v2 : Fn) (v7 : Fn) (v8 : Fn) (p1 : Int32) (p2 : Int32) {q : Int32 × MOv × Fn × Fn} (hf : f_X8_best v0 v2 v7 v8 p1 p2 = some q) : CM l yX8_best cX8_best 11 (some .int) rmX8_best D cy ad [.ref h0, .int p1, .int p2] [MO h0 h1 h2 h3 h4 h5 h6 h7 h8 v0, AI cy 107 h2 v2, AI cy 75 h7 v7, AI cy 3 h8 v8] (some (.int q.1)) [MO h0 h1 h2 h3 h4 h5 h6 h7 h8 q.2.1, AI cy 107 h2 v2, AI cy 75 h7 q.2.2.1, AI cy 3 h8 q.2.2.2] := by
  refine cm_of (lv0 := [(0, .ref h0), (1, .int p1), (2, .int p2)]) (by decide) (Nat.le_of_ble_eq_true rfl) rfl ?_
  intro p e s m args below meth c A X hr hn
  have X : gK p s m args meth c A D cy ad cX8_best 11 RX8 := X
  unfold f_X8_best at hf
  refine g_aload_n X dX8_best_0 0 rfl rfl ?_
  refine g_iload_n X dX8_best_1 1 rfl rfl ?_
  refine g_i2l X dX8_best_2 ?_
  refine g_lconst X (1 : Int64) dX8_best_3 (by decide) ?_
  refine g_ldc2 X lkl_X8_188 dX8_best_4 ?_
  obtain ⟨q1399, hq1399, hf⟩ := obind hf
  refine g_callS (gs' := [MO h0 h1 h2 h3 h4 h5 h6 h7 h8 v0, AI cy 107 h2 v2, AI cy 75 h7 v7, AI cy 3 h8 v8]) (rest := [.ref h0]) X dX8_best_7 (c_X8_in l D cy ad (p1.toInt64) (1 : Int64) (2 : Int64) hq1399) mf_X8_in ms_X8_in lkm_X8_43 ⟨(Nat.le_of_ble_eq_true rfl), (Nat.le_of_ble_eq_true rfl), (Nat.le_of_ble_eq_true rfl), (Nat.le_of_ble_eq_true rfl)⟩ [0, 1, 2, 3] _ (by decide : [0, 1, 2, 3].Perm (List.range 4)) rfl (by decide : [0, 1, 2, 3].Perm (List.range 4)) rfl (Nat.le_of_ble_eq_true rfl) rfl ?_
  refine g_if_eq X 29 dX8_best_10 (by decide) (fun c1422 => ?_) (fun c1422 => ?_)
  · have hf := opos c1422 hf
    exact j_X8_best_b29 X hr v0 v2 v7 v8 p1 p2 hf
  · have hf := oneg c1422 hf
    refine g_iload_n X dX8_best_13 2 rfl rfl ?_
    refine g_i2l X dX8_best_14 ?_
    refine g_lconst X (0 : Int64) dX8_best_15 (by decide) ?_
    refine g_ldc2 X lkl_X8_188 dX8_best_16 ?_
    obtain ⟨q1420, hq1420, hf⟩ := obind hf
    refine g_callS (gs' := [MO h0 h1 h2 h3 h4 h5 h6 h7 h8 v0, AI cy 107 h2 v2, AI cy 75 h7 v7, AI cy 3 h8 v8]) (rest := [.ref h0]) X dX8_best_19 (c_X8_in l D cy ad (p2.toInt64) (0 : Int64) (2 : Int64) hq1420) mf_X8_in ms_X8_in lkm_X8_43 ⟨(Nat.le_of_ble_eq_true rfl), (Nat.le_of_ble_eq_true rfl), (Nat.le_of_ble_eq_true rfl), (Nat.le_of_ble_eq_true rfl)⟩ [0, 1, 2, 3] _ (by decide : [0, 1, 2, 3].Perm (List.range 4)) rfl (by decide : [0, 1, 2, 3].Perm (List.range 4)) rfl (Nat.le_of_ble_eq_true rfl) rfl ?_
    refine g_if_eq X 29 dX8_best_22 (by decide) (fun c1421 => ?_) (fun c1421 => ?_)
    · have hf := opos c1421 hf
      exact j_X8_best_b29 X hr v0 v2 v7 v8 p1 p2 hf
    · have hf := oneg c1421 hf
      refine g_iconst X (0 : Int32) dX8_best_25 (by decide) ?_
      refine g_goto X 30 dX8_best_26 (by decide) ?_
      exact j_X8_best_b30 X hr v0 v2 v7 v8 p1 p2 false hf
abbrev rmX8_sharpest : Room := ({ frames := 5, cells := 0, slots := 0, locals := 116 } : Room)
def f_X8_sharpest_B32_b172 (v0 : MOv) (v2 : Fn) (v7 : Fn) (v8 : Fn) (x1 : Int32) (x2 : Int32) (x3 : Int32) (x4 : Int32) : Option ((Int32 × Int32 × Int32 × Fn) ⊕ ((Int32 × Int32 × Fn))) :=
  some (.inl (x1, x2, (x4 + (1 : Int32)), v8))
set_option maxRecDepth 100000 in
set_option maxHeartbeats 4000000 in
theorem j_X8_sharpest_B32_b172 {p : Program} {l : Launch} {e : Env} {s : State} {m : MethodId} {args : Array Value} {below : List Frame} {meth : Method} {c : Code} {A : Nat → Prop} {D : va_G} {cy : Nat → ClassId} {ad : (Nat → Nat) × (Nat → Nat)} {Q : State → Prop} (X : gK p s m args meth c A D cy ad cX8_sharpest 6 RX8) (hr : meth.sig.returnType = (some .int)) {h0 h1 h2 h3 h4 h5 h6 h7 h8 : Nat} (v0 : MOv) (v2 : Fn) (v7 : Fn) (v8 : Fn) (x1 : Int32) (x2 : Int32) (x3 : Int32) (x4 : Int32) {q : (Int32 × Int32 × Int32 × Fn) ⊕ ((Int32 × Int32 × Fn))} (hf : f_X8_sharpest_B32_b172 v0 v2 v7 v8 x1 x2 x3 x4 = some q) (K1 : ∀ s' : Int32 × Int32 × Int32 × Fn, q = .inl s' → GW p l e rmX8_sharpest s m args below meth c A D 6 0 0 Q 32 [(0, .ref h0), (1, .int s'.1), (2, .int s'.2.1), (3, .int x3), (4, .int s'.2.2.1)] [] [MO h0 h1 h2 h3 h4 h5 h6 h7 h8 v0, AI cy 107 h2 v2, AI cy 75 h7 v7, AI cy 3 h8 s'.2.2.2]) (K2 : ∀ e' : Int32 × Int32 × Fn, q = .inr (e') → GW p l e rmX8_sharpest s m args below meth c A D 6 0 0 Q 178 [(0, .ref h0), (1, .int e'.1), (2, .int e'.2.1), (3, .int x3)] [] [MO h0 h1 h2 h3 h4 h5 h6 h7 h8 v0, AI cy 107 h2 v2, AI cy 75 h7 v7, AI cy 3 h8 e'.2.2]) : GW p l e rmX8_sharpest s m args below meth c A D 6 0 0 Q 172 [(0, .ref h0), (1, .int x1), (2, .int x2), (3, .int x3), (4, .int x4)] [] [MO h0 h1 h2 h3 h4 h5 h6 h7 h8 v0, AI cy 107 h2 v2, AI cy 75 h7 v7, AI cy 3 h8 v8] := by
  unfold f_X8_sharpest_B32_b172 at hf
  refine g_iinc (lv' := [(0, .ref h0), (1, .int x1), (2, .int x2), (3, .int x3), (4, .int (x4 + (1 : Int32)))]) (v := (1 : Int32)) X dX8_sharpest_172 4 rfl (by decide) [1, 2, 3, 4, 0] (Nat.le_of_ble_eq_true rfl) rfl ?_
  refine g_goto X 32 dX8_sharpest_175 (by decide) ?_
  exact K1 (x1, x2, (x4 + (1 : Int32)), v8) (Option.some.inj hf).symm
def f_X8_sharpest_B32_b171 (v0 : MOv) (v2 : Fn) (v7 : Fn) (v8 : Fn) (x1 : Int32) (x3 : Int32) (x4 : Int32) (y0 : Int32) : Option ((Int32 × Int32 × Int32 × Fn) ⊕ ((Int32 × Int32 × Fn))) :=
  f_X8_sharpest_B32_b172 v0 v2 v7 v8 x1 y0 x3 x4
set_option maxRecDepth 100000 in
set_option maxHeartbeats 4000000 in
theorem j_X8_sharpest_B32_b171 {p : Program} {l : Launch} {e : Env} {s : State} {m : MethodId} {args : Array Value} {below : List Frame} {meth : Method} {c : Code} {A : Nat → Prop} {D : va_G} {cy : Nat → ClassId} {ad : (Nat → Nat) × (Nat → Nat)} {Q : State → Prop} (X : gK p s m args meth c A D cy ad cX8_sharpest 6 RX8) (hr : meth.sig.returnType = (some .int)) {h0 h1 h2 h3 h4 h5 h6 h7 h8 : Nat} (v0 : MOv) (v2 : Fn) (v7 : Fn) (v8 : Fn) (x1 : Int32) (x3 : Int32) (x4 : Int32) (y0 : Int32) {q : (Int32 × Int32 × Int32 × Fn) ⊕ ((Int32 × Int32 × Fn))} (hf : f_X8_sharpest_B32_b171 v0 v2 v7 v8 x1 x3 x4 y0 = some q) (K1 : ∀ s' : Int32 × Int32 × Int32 × Fn, q = .inl s' → GW p l e rmX8_sharpest s m args below meth c A D 6 0 0 Q 32 [(0, .ref h0), (1, .int s'.1), (2, .int s'.2.1), (3, .int x3), (4, .int s'.2.2.1)] [] [MO h0 h1 h2 h3 h4 h5 h6 h7 h8 v0, AI cy 107 h2 v2, AI cy 75 h7 v7, AI cy 3 h8 s'.2.2.2]) (K2 : ∀ e' : Int32 × Int32 × Fn, q = .inr (e') → GW p l e rmX8_sharpest s m args below meth c A D 6 0 0 Q 178 [(0, .ref h0), (1, .int e'.1), (2, .int e'.2.1), (3, .int x3)] [] [MO h0 h1 h2 h3 h4 h5 h6 h7 h8 v0, AI cy 107 h2 v2, AI cy 75 h7 v7, AI cy 3 h8 e'.2.2]) : GW p l e rmX8_sharpest s m args below meth c A D 6 0 0 Q 171 [(0, .ref h0), (1, .int x1), (3, .int x3), (4, .int x4)] [.int y0] [MO h0 h1 h2 h3 h4 h5 h6 h7 h8 v0, AI cy 107 h2 v2, AI cy 75 h7 v7, AI cy 3 h8 v8] := by
  unfold f_X8_sharpest_B32_b171 at hf
  refine g_istore_n (lv' := [(0, .ref h0), (1, .int x1), (2, .int y0), (3, .int x3), (4, .int x4)]) X dX8_sharpest_171 [1, 2, 0, 3, 4] rfl (Nat.le_of_ble_eq_true rfl) rfl ?_
  exact j_X8_sharpest_B32_b172 X hr v0 v2 v7 v8 x1 y0 x3 x4 hf K1 K2
def f_X8_sharpest_B32_b158 (v0 : MOv) (v2 : Fn) (v7 : Fn) (v8 : Fn) (x2 : Int32) (x3 : Int32) (x4 : Int32) (x5 : Int32) (y0 : Int32) : Option ((Int32 × Int32 × Int32 × Fn) ⊕ ((Int32 × Int32 × Fn))) :=
  if x5 ≤ x2 then f_X8_sharpest_B32_b171 v0 v2 v7 v8 y0 x3 x4 x2 else f_X8_sharpest_B32_b171 v0 v2 v7 v8 y0 x3 x4 x5
set_option maxRecDepth 100000 in
set_option maxHeartbeats 4000000 in
theorem j_X8_sharpest_B32_b158 {p : Program} {l : Launch} {e : Env} {s : State} {m : MethodId} {args : Array Value} {below : List Frame} {meth : Method} {c : Code} {A : Nat → Prop} {D : va_G} {cy : Nat → ClassId} {ad : (Nat → Nat) × (Nat → Nat)} {Q : State → Prop} (X : gK p s m args meth c A D cy ad cX8_sharpest 6 RX8) (hr : meth.sig.returnType = (some .int)) {h0 h1 h2 h3 h4 h5 h6 h7 h8 : Nat} (v0 : MOv) (v2 : Fn) (v7 : Fn) (v8 : Fn) (x2 : Int32) (x3 : Int32) (x4 : Int32) (x5 : Int32) (y0 : Int32) {q : (Int32 × Int32 × Int32 × Fn) ⊕ ((Int32 × Int32 × Fn))} (hf : f_X8_sharpest_B32_b158 v0 v2 v7 v8 x2 x3 x4 x5 y0 = some q) (K1 : ∀ s' : Int32 × Int32 × Int32 × Fn, q = .inl s' → GW p l e rmX8_sharpest s m args below meth c A D 6 0 0 Q 32 [(0, .ref h0), (1, .int s'.1), (2, .int s'.2.1), (3, .int x3), (4, .int s'.2.2.1)] [] [MO h0 h1 h2 h3 h4 h5 h6 h7 h8 v0, AI cy 107 h2 v2, AI cy 75 h7 v7, AI cy 3 h8 s'.2.2.2]) (K2 : ∀ e' : Int32 × Int32 × Fn, q = .inr (e') → GW p l e rmX8_sharpest s m args below meth c A D 6 0 0 Q 178 [(0, .ref h0), (1, .int e'.1), (2, .int e'.2.1), (3, .int x3)] [] [MO h0 h1 h2 h3 h4 h5 h6 h7 h8 v0, AI cy 107 h2 v2, AI cy 75 h7 v7, AI cy 3 h8 e'.2.2]) : GW p l e rmX8_sharpest s m args below meth c A D 6 0 0 Q 158 [(0, .ref h0), (2, .int x2), (3, .int x3), (4, .int x4), (5, .int x5)] [.int y0] [MO h0 h1 h2 h3 h4 h5 h6 h7 h8 v0, AI cy 107 h2 v2, AI cy 75 h7 v7, AI cy 3 h8 v8] := by
  unfold f_X8_sharpest_B32_b158 at hf
  refine g_istore_n (lv' := [(0, .ref h0), (1, .int y0), (2, .int x2), (3, .int x3), (4, .int x4), (5, .int x5)]) X dX8_sharpest_158 [1, 0, 2, 3, 4, 5] rfl (Nat.le_of_ble_eq_true rfl) rfl ?_
  refine g_iload X dX8_sharpest_159 5 rfl ?_
  refine g_iload_n X dX8_sharpest_161 2 rfl rfl ?_
  refine g_icmp_le X 170 dX8_sharpest_162 (by decide) (fun c1429 => ?_) (fun c1429 => ?_)
  · have hf := opos c1429 hf
    refine g_iload_n X dX8_sharpest_170 2 rfl rfl ?_
    refine g_sub [0, 1, 3, 4] (lv' := [(0, .ref h0), (1, .int y0), (3, .int x3), (4, .int x4)]) rfl ?_
    exact j_X8_sharpest_B32_b171 X hr v0 v2 v7 v8 y0 x3 x4 x2 hf K1 K2
  · have hf := oneg c1429 hf
    refine g_iload X dX8_sharpest_165 5 rfl ?_
    refine g_goto X 171 dX8_sharpest_167 (by decide) ?_
    refine g_sub [0, 1, 3, 4] (lv' := [(0, .ref h0), (1, .int y0), (3, .int x3), (4, .int x4)]) rfl ?_
    exact j_X8_sharpest_B32_b171 X hr v0 v2 v7 v8 y0 x3 x4 x5 hf K1 K2
def f_X8_sharpest_B32_b141 (v0 : MOv) (v2 : Fn) (v7 : Fn) (v8 : Fn) (x1 : Int32) (x2 : Int32) (x3 : Int32) (x4 : Int32) (x5 : Int32) : Option ((Int32 × Int32 × Int32 × Fn) ⊕ ((Int32 × Int32 × Fn))) :=
  if x5 ≤ x2 then f_X8_sharpest_B32_b158 v0 v2 v7 v8 x2 x3 x4 x5 x1 else f_X8_sharpest_B32_b158 v0 v2 v7 v8 x2 x3 x4 x5 (((100 : Int32) * x3) + x4)
set_option maxRecDepth 100000 in
set_option maxHeartbeats 4000000 in
theorem j_X8_sharpest_B32_b141 {p : Program} {l : Launch} {e : Env} {s : State} {m : MethodId} {args : Array Value} {below : List Frame} {meth : Method} {c : Code} {A : Nat → Prop} {D : va_G} {cy : Nat → ClassId} {ad : (Nat → Nat) × (Nat → Nat)} {Q : State → Prop} (X : gK p s m args meth c A D cy ad cX8_sharpest 6 RX8) (hr : meth.sig.returnType = (some .int)) {h0 h1 h2 h3 h4 h5 h6 h7 h8 : Nat} (v0 : MOv) (v2 : Fn) (v7 : Fn) (v8 : Fn) (x1 : Int32) (x2 : Int32) (x3 : Int32) (x4 : Int32) (x5 : Int32) {q : (Int32 × Int32 × Int32 × Fn) ⊕ ((Int32 × Int32 × Fn))} (hf : f_X8_sharpest_B32_b141 v0 v2 v7 v8 x1 x2 x3 x4 x5 = some q) (K1 : ∀ s' : Int32 × Int32 × Int32 × Fn, q = .inl s' → GW p l e rmX8_sharpest s m args below meth c A D 6 0 0 Q 32 [(0, .ref h0), (1, .int s'.1), (2, .int s'.2.1), (3, .int x3), (4, .int s'.2.2.1)] [] [MO h0 h1 h2 h3 h4 h5 h6 h7 h8 v0, AI cy 107 h2 v2, AI cy 75 h7 v7, AI cy 3 h8 s'.2.2.2]) (K2 : ∀ e' : Int32 × Int32 × Fn, q = .inr (e') → GW p l e rmX8_sharpest s m args below meth c A D 6 0 0 Q 178 [(0, .ref h0), (1, .int e'.1), (2, .int e'.2.1), (3, .int x3)] [] [MO h0 h1 h2 h3 h4 h5 h6 h7 h8 v0, AI cy 107 h2 v2, AI cy 75 h7 v7, AI cy 3 h8 e'.2.2]) : GW p l e rmX8_sharpest s m args below meth c A D 6 0 0 Q 141 [(0, .ref h0), (1, .int x1), (2, .int x2), (3, .int x3), (4, .int x4), (5, .int x5)] [] [MO h0 h1 h2 h3 h4 h5 h6 h7 h8 v0, AI cy 107 h2 v2, AI cy 75 h7 v7, AI cy 3 h8 v8] := by
  unfold f_X8_sharpest_B32_b141 at hf
  refine g_iload X dX8_sharpest_141 5 rfl ?_
  refine g_iload_n X dX8_sharpest_143 2 rfl rfl ?_
  refine g_icmp_le X 157 dX8_sharpest_144 (by decide) (fun c1430 => ?_) (fun c1430 => ?_)
  · have hf := opos c1430 hf
    refine g_iload_n X dX8_sharpest_157 1 rfl rfl ?_
    refine g_sub [0, 2, 3, 4, 5] (lv' := [(0, .ref h0), (2, .int x2), (3, .int x3), (4, .int x4), (5, .int x5)]) rfl ?_
    exact j_X8_sharpest_B32_b158 X hr v0 v2 v7 v8 x2 x3 x4 x5 x1 hf K1 K2
  · have hf := oneg c1430 hf
    refine g_bipush X (100 : Int32) dX8_sharpest_147 (by decide) ?_
    refine g_iload_n X dX8_sharpest_149 3 rfl rfl ?_
    refine g_imul X dX8_sharpest_150 ?_
    refine g_iload X dX8_sharpest_151 4 rfl ?_
    refine g_iadd X dX8_sharpest_153 ?_
    refine g_goto X 158 dX8_sharpest_154 (by decide) ?_
    refine g_sub [0, 2, 3, 4, 5] (lv' := [(0, .ref h0), (2, .int x2), (3, .int x3), (4, .int x4), (5, .int x5)]) rfl ?_
    exact j_X8_sharpest_B32_b158 X hr v0 v2 v7 v8 x2 x3 x4 x5 (((100 : Int32) * x3) + x4) hf K1 K2
def f_X8_sharpest_B32_b82 (v0 : MOv) (v2 : Fn) (v7 : Fn) (v8 : Fn) (x1 : Int32) (x2 : Int32) (x3 : Int32) (x4 : Int32) (y0 : Int32) (y1 : Int32) : Option ((Int32 × Int32 × Int32 × Fn) ⊕ ((Int32 × Int32 × Fn))) :=
  (f_X8_worst v0 v7 v8 y1 y0 (v2 (2 : Int32).toNatClampNeg) (v2 (3 : Int32).toNatClampNeg)).bind (fun q1428 => f_X8_sharpest_B32_b141 v0 v2 v7 q1428.2 x1 x2 x3 x4 ((((q1428.2 (0 : Int32).toNatClampNeg) * (q1428.2 (1 : Int32).toNatClampNeg)) + ((q1428.2 (0 : Int32).toNatClampNeg) * (q1428.2 (2 : Int32).toNatClampNeg))) + ((q1428.2 (1 : Int32).toNatClampNeg) * (q1428.2 (2 : Int32).toNatClampNeg))))
set_option maxRecDepth 100000 in
set_option maxHeartbeats 4000000 in
theorem j_X8_sharpest_B32_b82 {p : Program} {l : Launch} {e : Env} {s : State} {m : MethodId} {args : Array Value} {below : List Frame} {meth : Method} {c : Code} {A : Nat → Prop} {D : va_G} {cy : Nat → ClassId} {ad : (Nat → Nat) × (Nat → Nat)} {Q : State → Prop} (X : gK p s m args meth c A D cy ad cX8_sharpest 6 RX8) (hr : meth.sig.returnType = (some .int)) {h0 h1 h2 h3 h4 h5 h6 h7 h8 : Nat} (v0 : MOv) (v2 : Fn) (v7 : Fn) (v8 : Fn) (x1 : Int32) (x2 : Int32) (x3 : Int32) (x4 : Int32) (y0 : Int32) (y1 : Int32) {q : (Int32 × Int32 × Int32 × Fn) ⊕ ((Int32 × Int32 × Fn))} (hf : f_X8_sharpest_B32_b82 v0 v2 v7 v8 x1 x2 x3 x4 y0 y1 = some q) (K1 : ∀ s' : Int32 × Int32 × Int32 × Fn, q = .inl s' → GW p l e rmX8_sharpest s m args below meth c A D 6 0 0 Q 32 [(0, .ref h0), (1, .int s'.1), (2, .int s'.2.1), (3, .int x3), (4, .int s'.2.2.1)] [] [MO h0 h1 h2 h3 h4 h5 h6 h7 h8 v0, AI cy 107 h2 v2, AI cy 75 h7 v7, AI cy 3 h8 s'.2.2.2]) (K2 : ∀ e' : Int32 × Int32 × Fn, q = .inr (e') → GW p l e rmX8_sharpest s m args below meth c A D 6 0 0 Q 178 [(0, .ref h0), (1, .int e'.1), (2, .int e'.2.1), (3, .int x3)] [] [MO h0 h1 h2 h3 h4 h5 h6 h7 h8 v0, AI cy 107 h2 v2, AI cy 75 h7 v7, AI cy 3 h8 e'.2.2]) : GW p l e rmX8_sharpest s m args below meth c A D 6 0 0 Q 82 [(0, .ref h0), (1, .int x1), (2, .int x2), (3, .int x3), (4, .int x4)] [.int y0, .int y1, .ref h0] [MO h0 h1 h2 h3 h4 h5 h6 h7 h8 v0, AI cy 107 h2 v2, AI cy 75 h7 v7, AI cy 3 h8 v8] := by
  unfold f_X8_sharpest_B32_b82 at hf
  refine g_aload_n X dX8_sharpest_82 0 rfl rfl ?_
  refine g_get X dX8_sharpest_83 ck_X8 0 0 3 rfl rfl (Nat.le_of_ble_eq_true rfl) lkf_X8_13 rfl ?_
  refine g_iconst X (2 : Int32) dX8_sharpest_86 (by decide) ?_
  refine g_iaload X dX8_sharpest_87 1 0 rfl rfl (by decide) ?_
  refine g_aload_n X dX8_sharpest_88 0 rfl rfl ?_
  refine g_get X dX8_sharpest_89 ck_X8 0 0 3 rfl rfl (Nat.le_of_ble_eq_true rfl) lkf_X8_13 rfl ?_
  refine g_iconst X (3 : Int32) dX8_sharpest_92 (by decide) ?_
  refine g_iaload X dX8_sharpest_93 1 0 rfl rfl (by decide) ?_
  obtain ⟨q1428, hq1428, hf⟩ := obind hf
  refine g_callV (gs' := [MO h0 h1 h2 h3 h4 h5 h6 h7 h8 v0, AI cy 107 h2 v2, AI cy 75 h7 v7, AI cy 3 h8 q1428.2]) (rest := []) X dX8_sharpest_94 (c_X8_worst l D cy ad h0 h1 h2 h3 h4 h5 h6 h7 h8 v0 v7 v8 y1 y0 (v2 (2 : Int32).toNatClampNeg) (v2 (3 : Int32).toNatClampNeg) hq1428) mf_X8_worst mv_X8_worst lkm_X8_196 ⟨(Nat.le_of_ble_eq_true rfl), (Nat.le_of_ble_eq_true rfl), (Nat.le_of_ble_eq_true rfl), (Nat.le_of_ble_eq_true rfl)⟩ 0 0 rfl rfl rfl rfl [0, 2, 3, 1] _ (by decide : [0, 2, 3, 1].Perm (List.range 4)) rfl (by decide : [0, 2, 3, 1].Perm (List.range 4)) rfl (Nat.le_of_ble_eq_true rfl) rfl ?_
  refine g_pop X dX8_sharpest_97 rfl ?_
  refine g_aload_n X dX8_sharpest_98 0 rfl rfl ?_
  refine g_get X dX8_sharpest_99 ck_X8 0 0 11 rfl rfl (Nat.le_of_ble_eq_true rfl) lkf_X8_32 rfl ?_
  refine g_iconst X (0 : Int32) dX8_sharpest_102 (by decide) ?_
  refine g_iaload X dX8_sharpest_103 3 0 rfl rfl (by decide) ?_
  refine g_aload_n X dX8_sharpest_104 0 rfl rfl ?_
  refine g_get X dX8_sharpest_105 ck_X8 0 0 11 rfl rfl (Nat.le_of_ble_eq_true rfl) lkf_X8_32 rfl ?_
  refine g_iconst X (1 : Int32) dX8_sharpest_108 (by decide) ?_
  refine g_iaload X dX8_sharpest_109 3 0 rfl rfl (by decide) ?_
  refine g_imul X dX8_sharpest_110 ?_
  refine g_aload_n X dX8_sharpest_111 0 rfl rfl ?_
  refine g_get X dX8_sharpest_112 ck_X8 0 0 11 rfl rfl (Nat.le_of_ble_eq_true rfl) lkf_X8_32 rfl ?_
  refine g_iconst X (0 : Int32) dX8_sharpest_115 (by decide) ?_
  refine g_iaload X dX8_sharpest_116 3 0 rfl rfl (by decide) ?_
  refine g_aload_n X dX8_sharpest_117 0 rfl rfl ?_
  refine g_get X dX8_sharpest_118 ck_X8 0 0 11 rfl rfl (Nat.le_of_ble_eq_true rfl) lkf_X8_32 rfl ?_
  refine g_iconst X (2 : Int32) dX8_sharpest_121 (by decide) ?_
  refine g_iaload X dX8_sharpest_122 3 0 rfl rfl (by decide) ?_
  refine g_imul X dX8_sharpest_123 ?_
  refine g_iadd X dX8_sharpest_124 ?_
  refine g_aload_n X dX8_sharpest_125 0 rfl rfl ?_
  refine g_get X dX8_sharpest_126 ck_X8 0 0 11 rfl rfl (Nat.le_of_ble_eq_true rfl) lkf_X8_32 rfl ?_
  refine g_iconst X (1 : Int32) dX8_sharpest_129 (by decide) ?_
  refine g_iaload X dX8_sharpest_130 3 0 rfl rfl (by decide) ?_
  refine g_aload_n X dX8_sharpest_131 0 rfl rfl ?_
  refine g_get X dX8_sharpest_132 ck_X8 0 0 11 rfl rfl (Nat.le_of_ble_eq_true rfl) lkf_X8_32 rfl ?_
  refine g_iconst X (2 : Int32) dX8_sharpest_135 (by decide) ?_
  refine g_iaload X dX8_sharpest_136 3 0 rfl rfl (by decide) ?_
  refine g_imul X dX8_sharpest_137 ?_
  refine g_iadd X dX8_sharpest_138 ?_
  refine g_istore (lv' := [(0, .ref h0), (1, .int x1), (2, .int x2), (3, .int x3), (4, .int x4), (5, .int ((((q1428.2 (0 : Int32).toNatClampNeg) * (q1428.2 (1 : Int32).toNatClampNeg)) + ((q1428.2 (0 : Int32).toNatClampNeg) * (q1428.2 (2 : Int32).toNatClampNeg))) + ((q1428.2 (1 : Int32).toNatClampNeg) * (q1428.2 (2 : Int32).toNatClampNeg))))]) X dX8_sharpest_139 [1, 2, 3, 4, 5, 0] (Nat.le_of_ble_eq_true rfl) rfl ?_
  exact j_X8_sharpest_B32_b141 X hr v0 v2 v7 q1428.2 x1 x2 x3 x4 ((((q1428.2 (0 : Int32).toNatClampNeg) * (q1428.2 (1 : Int32).toNatClampNeg)) + ((q1428.2 (0 : Int32).toNatClampNeg) * (q1428.2 (2 : Int32).toNatClampNeg))) + ((q1428.2 (1 : Int32).toNatClampNeg) * (q1428.2 (2 : Int32).toNatClampNeg))) hf K1 K2
def f_X8_sharpest_B32_b63 (v0 : MOv) (v2 : Fn) (v7 : Fn) (v8 : Fn) (x1 : Int32) (x2 : Int32) (x3 : Int32) (x4 : Int32) : Option ((Int32 × Int32 × Int32 × Fn) ⊕ ((Int32 × Int32 × Fn))) :=
  if x4 = (12 : Int32) then f_X8_sharpest_B32_b82 v0 v2 v7 v8 x1 x2 x3 x4 (0 : Int32) ((1 : Int32) <<< (x3 &&& 31)) else f_X8_sharpest_B32_b82 v0 v2 v7 v8 x1 x2 x3 x4 ((1 : Int32) <<< (x4 &&& 31)) ((1 : Int32) <<< (x3 &&& 31))
set_option maxRecDepth 100000 in
set_option maxHeartbeats 4000000 in
theorem j_X8_sharpest_B32_b63 {p : Program} {l : Launch} {e : Env} {s : State} {m : MethodId} {args : Array Value} {below : List Frame} {meth : Method} {c : Code} {A : Nat → Prop} {D : va_G} {cy : Nat → ClassId} {ad : (Nat → Nat) × (Nat → Nat)} {Q : State → Prop} (X : gK p s m args meth c A D cy ad cX8_sharpest 6 RX8) (hr : meth.sig.returnType = (some .int)) {h0 h1 h2 h3 h4 h5 h6 h7 h8 : Nat} (v0 : MOv) (v2 : Fn) (v7 : Fn) (v8 : Fn) (x1 : Int32) (x2 : Int32) (x3 : Int32) (x4 : Int32) {q : (Int32 × Int32 × Int32 × Fn) ⊕ ((Int32 × Int32 × Fn))} (hf : f_X8_sharpest_B32_b63 v0 v2 v7 v8 x1 x2 x3 x4 = some q) (K1 : ∀ s' : Int32 × Int32 × Int32 × Fn, q = .inl s' → GW p l e rmX8_sharpest s m args below meth c A D 6 0 0 Q 32 [(0, .ref h0), (1, .int s'.1), (2, .int s'.2.1), (3, .int x3), (4, .int s'.2.2.1)] [] [MO h0 h1 h2 h3 h4 h5 h6 h7 h8 v0, AI cy 107 h2 v2, AI cy 75 h7 v7, AI cy 3 h8 s'.2.2.2]) (K2 : ∀ e' : Int32 × Int32 × Fn, q = .inr (e') → GW p l e rmX8_sharpest s m args below meth c A D 6 0 0 Q 178 [(0, .ref h0), (1, .int e'.1), (2, .int e'.2.1), (3, .int x3)] [] [MO h0 h1 h2 h3 h4 h5 h6 h7 h8 v0, AI cy 107 h2 v2, AI cy 75 h7 v7, AI cy 3 h8 e'.2.2]) : GW p l e rmX8_sharpest s m args below meth c A D 6 0 0 Q 63 [(0, .ref h0), (1, .int x1), (2, .int x2), (3, .int x3), (4, .int x4)] [] [MO h0 h1 h2 h3 h4 h5 h6 h7 h8 v0, AI cy 107 h2 v2, AI cy 75 h7 v7, AI cy 3 h8 v8] := by
  unfold f_X8_sharpest_B32_b63 at hf
  refine g_aload_n X dX8_sharpest_63 0 rfl rfl ?_
  refine g_iconst X (1 : Int32) dX8_sharpest_64 (by decide) ?_
  refine g_iload_n X dX8_sharpest_65 3 rfl rfl ?_
  refine g_ishl X dX8_sharpest_66 ?_
  refine g_iload X dX8_sharpest_67 4 rfl ?_
  refine g_bipush X (12 : Int32) dX8_sharpest_69 (by decide) ?_
  refine g_icmp_ne X 78 dX8_sharpest_71 (by decide) (fun c1431 => ?_) (fun c1431 => ?_)
  · have hf := oneg c1431 hf
    refine g_iconst X (1 : Int32) dX8_sharpest_78 (by decide) ?_
    refine g_iload X dX8_sharpest_79 4 rfl ?_
    refine g_ishl X dX8_sharpest_81 ?_
    exact j_X8_sharpest_B32_b82 X hr v0 v2 v7 v8 x1 x2 x3 x4 ((1 : Int32) <<< (x4 &&& 31)) ((1 : Int32) <<< (x3 &&& 31)) hf K1 K2
  · have hf := opos c1431 hf
    refine g_iconst X (0 : Int32) dX8_sharpest_74 (by decide) ?_
    refine g_goto X 82 dX8_sharpest_75 (by decide) ?_
    exact j_X8_sharpest_B32_b82 X hr v0 v2 v7 v8 x1 x2 x3 x4 (0 : Int32) ((1 : Int32) <<< (x3 &&& 31)) hf K1 K2
def f_X8_sharpest_B32 (v0 : MOv) (v2 : Fn) (v7 : Fn) (x3 : Int32) (z : Int32 × Int32 × Int32 × Fn) : Option ((Int32 × Int32 × Int32 × Fn) ⊕ ((Int32 × Int32 × Fn))) :=
  if (12 : Int32) < z.2.2.1 then some (.inr ((z.1, z.2.1, z.2.2.2))) else if z.2.2.1 = (12 : Int32) then f_X8_sharpest_B32_b63 v0 v2 v7 z.2.2.2 z.1 z.2.1 x3 z.2.2.1 else if (v2 (0 : Int32).toNatClampNeg) ≤ z.2.2.1 then f_X8_sharpest_B32_b172 v0 v2 v7 z.2.2.2 z.1 z.2.1 x3 z.2.2.1 else if z.2.2.1 = x3 then f_X8_sharpest_B32_b172 v0 v2 v7 z.2.2.2 z.1 z.2.1 x3 z.2.2.1 else f_X8_sharpest_B32_b63 v0 v2 v7 z.2.2.2 z.1 z.2.1 x3 z.2.2.1
set_option maxRecDepth 100000 in
set_option maxHeartbeats 4000000 in
theorem b_X8_sharpest_B32 {p : Program} {l : Launch} {e : Env} {s : State} {m : MethodId} {args : Array Value} {below : List Frame} {meth : Method} {c : Code} {A : Nat → Prop} {D : va_G} {cy : Nat → ClassId} {ad : (Nat → Nat) × (Nat → Nat)} {Q : State → Prop} (X : gK p s m args meth c A D cy ad cX8_sharpest 6 RX8) (hr : meth.sig.returnType = (some .int)) {h0 h1 h2 h3 h4 h5 h6 h7 h8 : Nat} (v0 : MOv) (v2 : Fn) (v7 : Fn) (x3 : Int32) (z : Int32 × Int32 × Int32 × Fn) {q : (Int32 × Int32 × Int32 × Fn) ⊕ ((Int32 × Int32 × Fn))} (hf : f_X8_sharpest_B32 v0 v2 v7 x3 z = some q) (K1 : ∀ s' : Int32 × Int32 × Int32 × Fn, q = .inl s' → GW p l e rmX8_sharpest s m args below meth c A D 6 0 0 Q 32 [(0, .ref h0), (1, .int s'.1), (2, .int s'.2.1), (3, .int x3), (4, .int s'.2.2.1)] [] [MO h0 h1 h2 h3 h4 h5 h6 h7 h8 v0, AI cy 107 h2 v2, AI cy 75 h7 v7, AI cy 3 h8 s'.2.2.2]) (K2 : ∀ e' : Int32 × Int32 × Fn, q = .inr (e') → GW p l e rmX8_sharpest s m args below meth c A D 6 0 0 Q 178 [(0, .ref h0), (1, .int e'.1), (2, .int e'.2.1), (3, .int x3)] [] [MO h0 h1 h2 h3 h4 h5 h6 h7 h8 v0, AI cy 107 h2 v2, AI cy 75 h7 v7, AI cy 3 h8 e'.2.2]) : GW p l e rmX8_sharpest s m args below meth c A D 6 0 0 Q 32 [(0, .ref h0), (1, .int z.1), (2, .int z.2.1), (3, .int x3), (4, .int z.2.2.1)] [] [MO h0 h1 h2 h3 h4 h5 h6 h7 h8 v0, AI cy 107 h2 v2, AI cy 75 h7 v7, AI cy 3 h8 z.2.2.2] := by
  unfold f_X8_sharpest_B32 at hf
  refine g_iload X dX8_sharpest_32 4 rfl ?_
  refine g_bipush X (12 : Int32) dX8_sharpest_34 (by decide) ?_
  refine g_icmp_gt X 178 dX8_sharpest_36 (by decide) (fun c1435 => ?_) (fun c1435 => ?_)
  · have hf := opos c1435 hf
    refine g_sub [0, 1, 2, 3] (lv' := [(0, .ref h0), (1, .int z.1), (2, .int z.2.1), (3, .int x3)]) rfl ?_
    exact K2 (z.1, z.2.1, z.2.2.2) (Option.some.inj hf).symm
  · have hf := oneg c1435 hf
    refine g_iload X dX8_sharpest_39 4 rfl ?_
    refine g_bipush X (12 : Int32) dX8_sharpest_41 (by decide) ?_
    refine g_icmp_eq X 63 dX8_sharpest_43 (by decide) (fun c1434 => ?_) (fun c1434 => ?_)
    · have hf := opos c1434 hf
      exact j_X8_sharpest_B32_b63 X hr v0 v2 v7 z.2.2.2 z.1 z.2.1 x3 z.2.2.1 hf K1 K2
    · have hf := oneg c1434 hf
      refine g_iload X dX8_sharpest_46 4 rfl ?_
      refine g_aload_n X dX8_sharpest_48 0 rfl rfl ?_
      refine g_get X dX8_sharpest_49 ck_X8 0 0 3 rfl rfl (Nat.le_of_ble_eq_true rfl) lkf_X8_13 rfl ?_
      refine g_iconst X (0 : Int32) dX8_sharpest_52 (by decide) ?_
      refine g_iaload X dX8_sharpest_53 1 0 rfl rfl (by decide) ?_
      refine g_icmp_ge X 172 dX8_sharpest_54 (by decide) (fun c1433 => ?_) (fun c1433 => ?_)
      · have hf := opos c1433 hf
        exact j_X8_sharpest_B32_b172 X hr v0 v2 v7 z.2.2.2 z.1 z.2.1 x3 z.2.2.1 hf K1 K2
      · have hf := oneg c1433 hf
        refine g_iload X dX8_sharpest_57 4 rfl ?_
        refine g_iload_n X dX8_sharpest_59 3 rfl rfl ?_
        refine g_icmp_eq X 172 dX8_sharpest_60 (by decide) (fun c1432 => ?_) (fun c1432 => ?_)
        · have hf := opos c1432 hf
          exact j_X8_sharpest_B32_b172 X hr v0 v2 v7 z.2.2.2 z.1 z.2.1 x3 z.2.2.1 hf K1 K2
        · have hf := oneg c1432 hf
          exact j_X8_sharpest_B32_b63 X hr v0 v2 v7 z.2.2.2 z.1 z.2.1 x3 z.2.2.1 hf K1 K2
set_option maxRecDepth 100000 in
set_option maxHeartbeats 4000000 in
theorem w_X8_sharpest_B32 {p : Program} {l : Launch} {e : Env} {s : State} {m : MethodId} {args : Array Value} {below : List Frame} {meth : Method} {c : Code} {A : Nat → Prop} {D : va_G} {cy : Nat → ClassId} {ad : (Nat → Nat) × (Nat → Nat)} {Q : State → Prop} (X : gK p s m args meth c A D cy ad cX8_sharpest 6 RX8) (hr : meth.sig.returnType = (some .int)) {h0 h1 h2 h3 h4 h5 h6 h7 h8 : Nat} (v0 : MOv) (v2 : Fn) (v7 : Fn) (x3 : Int32) {n : Nat} {z : Int32 × Int32 × Int32 × Fn} {q : (Int32 × Int32 × Fn)} (hf : itl (f_X8_sharpest_B32 v0 v2 v7 x3) n z = some q) (K2 : GW p l e rmX8_sharpest s m args below meth c A D 6 0 0 Q 178 [(0, .ref h0), (1, .int q.1), (2, .int q.2.1), (3, .int x3)] [] [MO h0 h1 h2 h3 h4 h5 h6 h7 h8 v0, AI cy 107 h2 v2, AI cy 75 h7 v7, AI cy 3 h8 q.2.2]) : GW p l e rmX8_sharpest s m args below meth c A D 6 0 0 Q 32 [(0, .ref h0), (1, .int z.1), (2, .int z.2.1), (3, .int x3), (4, .int z.2.2.1)] [] [MO h0 h1 h2 h3 h4 h5 h6 h7 h8 v0, AI cy 107 h2 v2, AI cy 75 h7 v7, AI cy 3 h8 z.2.2.2] :=
  itl_ind (f := f_X8_sharpest_B32 v0 v2 v7 x3) (I := fun z => GW p l e rmX8_sharpest s m args below meth c A D 6 0 0 Q 32 [(0, .ref h0), (1, .int z.1), (2, .int z.2.1), (3, .int x3), (4, .int z.2.2.1)] [] [MO h0 h1 h2 h3 h4 h5 h6 h7 h8 v0, AI cy 107 h2 v2, AI cy 75 h7 v7, AI cy 3 h8 z.2.2.2]) (J := (fun q => GW p l e rmX8_sharpest s m args below meth c A D 6 0 0 Q 178 [(0, .ref h0), (1, .int q.1), (2, .int q.2.1), (3, .int x3)] [] [MO h0 h1 h2 h3 h4 h5 h6 h7 h8 v0, AI cy 107 h2 v2, AI cy 75 h7 v7, AI cy 3 h8 q.2.2])) (fun z x h k1 k2 => b_X8_sharpest_B32 X hr v0 v2 v7 x3 z h (fun s' hs => k1 s' hs) (fun e' he => k2 e' he)) n z q hf K2
def f_X8_sharpest_B19 (v0 : MOv) (v2 : Fn) (v7 : Fn) (z : Int32 × Int32 × Int32 × Fn) : Option ((Int32 × Int32 × Int32 × Fn) ⊕ ((Int32 × Fn))) :=
  if (v2 (0 : Int32).toNatClampNeg) ≤ z.2.2.1 then some (.inr ((z.1, z.2.2.2))) else (itl (f_X8_sharpest_B32 v0 v2 v7 z.2.2.1) FU (z.1, z.2.1, (0 : Int32), z.2.2.2)).bind (fun q1436 => some (.inl (q1436.1, q1436.2.1, (z.2.2.1 + (1 : Int32)), q1436.2.2)))
set_option maxRecDepth 100000 in
set_option maxHeartbeats 4000000 in
theorem b_X8_sharpest_B19 {p : Program} {l : Launch} {e : Env} {s : State} {m : MethodId} {args : Array Value} {below : List Frame} {meth : Method} {c : Code} {A : Nat → Prop} {D : va_G} {cy : Nat → ClassId} {ad : (Nat → Nat) × (Nat → Nat)} {Q : State → Prop} (X : gK p s m args meth c A D cy ad cX8_sharpest 6 RX8) (hr : meth.sig.returnType = (some .int)) {h0 h1 h2 h3 h4 h5 h6 h7 h8 : Nat} (v0 : MOv) (v2 : Fn) (v7 : Fn) (z : Int32 × Int32 × Int32 × Fn) {q : (Int32 × Int32 × Int32 × Fn) ⊕ ((Int32 × Fn))} (hf : f_X8_sharpest_B19 v0 v2 v7 z = some q) (K1 : ∀ s' : Int32 × Int32 × Int32 × Fn, q = .inl s' → GW p l e rmX8_sharpest s m args below meth c A D 6 0 0 Q 19 [(0, .ref h0), (1, .int s'.1), (2, .int s'.2.1), (3, .int s'.2.2.1)] [] [MO h0 h1 h2 h3 h4 h5 h6 h7 h8 v0, AI cy 107 h2 v2, AI cy 75 h7 v7, AI cy 3 h8 s'.2.2.2]) (K2 : ∀ e' : Int32 × Fn, q = .inr (e') → GW p l e rmX8_sharpest s m args below meth c A D 6 0 0 Q 184 [(1, .int e'.1)] [] [MO h0 h1 h2 h3 h4 h5 h6 h7 h8 v0, AI cy 107 h2 v2, AI cy 75 h7 v7, AI cy 3 h8 e'.2]) : GW p l e rmX8_sharpest s m args below meth c A D 6 0 0 Q 19 [(0, .ref h0), (1, .int z.1), (2, .int z.2.1), (3, .int z.2.2.1)] [] [MO h0 h1 h2 h3 h4 h5 h6 h7 h8 v0, AI cy 107 h2 v2, AI cy 75 h7 v7, AI cy 3 h8 z.2.2.2] := by
  unfold f_X8_sharpest_B19 at hf
  refine g_iload_n X dX8_sharpest_19 3 rfl rfl ?_
  refine g_aload_n X dX8_sharpest_20 0 rfl rfl ?_
  refine g_get X dX8_sharpest_21 ck_X8 0 0 3 rfl rfl (Nat.le_of_ble_eq_true rfl) lkf_X8_13 rfl ?_
  refine g_iconst X (0 : Int32) dX8_sharpest_24 (by decide) ?_
  refine g_iaload X dX8_sharpest_25 1 0 rfl rfl (by decide) ?_
  refine g_icmp_ge X 184 dX8_sharpest_26 (by decide) (fun c1437 => ?_) (fun c1437 => ?_)
  · have hf := opos c1437 hf
    refine g_sub [1] (lv' := [(1, .int z.1)]) rfl ?_
    exact K2 (z.1, z.2.2.2) (Option.some.inj hf).symm
  · have hf := oneg c1437 hf
    refine g_iconst X (0 : Int32) dX8_sharpest_29 (by decide) ?_
    refine g_istore (lv' := [(0, .ref h0), (1, .int z.1), (2, .int z.2.1), (3, .int z.2.2.1), (4, .int (0 : Int32))]) X dX8_sharpest_30 [1, 2, 3, 4, 0] (Nat.le_of_ble_eq_true rfl) rfl ?_
    obtain ⟨q1436, hq1436, hf⟩ := obind hf
    refine w_X8_sharpest_B32 X hr v0 v2 v7 z.2.2.1 hq1436 ?_
    refine g_iinc (lv' := [(0, .ref h0), (1, .int q1436.1), (2, .int q1436.2.1), (3, .int (z.2.2.1 + (1 : Int32)))]) (v := (1 : Int32)) X dX8_sharpest_178 3 rfl (by decide) [1, 2, 3, 0] (Nat.le_of_ble_eq_true rfl) rfl ?_
    refine g_goto X 19 dX8_sharpest_181 (by decide) ?_
    exact K1 (q1436.1, q1436.2.1, (z.2.2.1 + (1 : Int32)), q1436.2.2) (Option.some.inj hf).symm
set_option maxRecDepth 100000 in
set_option maxHeartbeats 4000000 in
theorem w_X8_sharpest_B19 {p : Program} {l : Launch} {e : Env} {s : State} {m : MethodId} {args : Array Value} {below : List Frame} {meth : Method} {c : Code} {A : Nat → Prop} {D : va_G} {cy : Nat → ClassId} {ad : (Nat → Nat) × (Nat → Nat)} {Q : State → Prop} (X : gK p s m args meth c A D cy ad cX8_sharpest 6 RX8) (hr : meth.sig.returnType = (some .int)) {h0 h1 h2 h3 h4 h5 h6 h7 h8 : Nat} (v0 : MOv) (v2 : Fn) (v7 : Fn) {n : Nat} {z : Int32 × Int32 × Int32 × Fn} {q : (Int32 × Fn)} (hf : itl (f_X8_sharpest_B19 v0 v2 v7) n z = some q) (K2 : GW p l e rmX8_sharpest s m args below meth c A D 6 0 0 Q 184 [(1, .int q.1)] [] [MO h0 h1 h2 h3 h4 h5 h6 h7 h8 v0, AI cy 107 h2 v2, AI cy 75 h7 v7, AI cy 3 h8 q.2]) : GW p l e rmX8_sharpest s m args below meth c A D 6 0 0 Q 19 [(0, .ref h0), (1, .int z.1), (2, .int z.2.1), (3, .int z.2.2.1)] [] [MO h0 h1 h2 h3 h4 h5 h6 h7 h8 v0, AI cy 107 h2 v2, AI cy 75 h7 v7, AI cy 3 h8 z.2.2.2] :=
  itl_ind (f := f_X8_sharpest_B19 v0 v2 v7) (I := fun z => GW p l e rmX8_sharpest s m args below meth c A D 6 0 0 Q 19 [(0, .ref h0), (1, .int z.1), (2, .int z.2.1), (3, .int z.2.2.1)] [] [MO h0 h1 h2 h3 h4 h5 h6 h7 h8 v0, AI cy 107 h2 v2, AI cy 75 h7 v7, AI cy 3 h8 z.2.2.2]) (J := (fun q => GW p l e rmX8_sharpest s m args below meth c A D 6 0 0 Q 184 [(1, .int q.1)] [] [MO h0 h1 h2 h3 h4 h5 h6 h7 h8 v0, AI cy 107 h2 v2, AI cy 75 h7 v7, AI cy 3 h8 q.2])) (fun z x h k1 k2 => b_X8_sharpest_B19 X hr v0 v2 v7 z h (fun s' hs => k1 s' hs) (fun e' he => k2 e' he)) n z q hf K2
def f_X8_sharpest (v0 : MOv) (v2 : Fn) (v7 : Fn) (v8 : Fn) : Option (Int32 × MOv × Fn × Fn) :=
  (f_X8_gather ((0 : Int32), v0.2.1, v0.2.2.1, v0.2.2.2.1, v0.2.2.2.2.1, v0.2.2.2.2.2) v7 v2).bind (fun q1427 => (itl (f_X8_sharpest_B19 q1427.1 v2 q1427.2) FU ((-1 : Int32), (0 : Int32), (0 : Int32), v8)).bind (fun q1438 => some (q1438.1, q1427.1, q1427.2, q1438.2)))
set_option maxRecDepth 100000 in
set_option maxHeartbeats 4000000 in
theorem c_X8_sharpest (l : Launch) (D : va_G) (cy : Nat → ClassId) (ad : (Nat → Nat) × (Nat → Nat)) (h0 : Nat) (h1 : Nat) (h2 : Nat) (h3 : Nat) (h4 : Nat) (h5 : Nat) (h6 : Nat) (h7 : Nat) (h8 : Nat) (v0 : MOv) (v2 : Fn) (v7 : Fn) (v8 : Fn) {q : Int32 × MOv × Fn × Fn} (hf : f_X8_sharpest v0 v2 v7 v8 = some q) : CM l yX8_sharpest cX8_sharpest 6 (some .int) rmX8_sharpest D cy ad [.ref h0] [MO h0 h1 h2 h3 h4 h5 h6 h7 h8 v0, AI cy 107 h2 v2, AI cy 75 h7 v7, AI cy 3 h8 v8] (some (.int q.1)) [MO h0 h1 h2 h3 h4 h5 h6 h7 h8 q.2.1, AI cy 107 h2 v2, AI cy 75 h7 q.2.2.1, AI cy 3 h8 q.2.2.2] := by
  refine cm_of (lv0 := [(0, .ref h0)]) (by decide) (Nat.le_of_ble_eq_true rfl) rfl ?_
  intro p e s m args below meth c A X hr hn
  have X : gK p s m args meth c A D cy ad cX8_sharpest 6 RX8 := X
  unfold f_X8_sharpest at hf
  refine g_aload_n X dX8_sharpest_0 0 rfl rfl ?_
  refine g_iconst X (0 : Int32) dX8_sharpest_1 (by decide) ?_
  refine g_put (gs' := [MO h0 h1 h2 h3 h4 h5 h6 h7 h8 ((0 : Int32), v0.2.1, v0.2.2.1, v0.2.2.2.1, v0.2.2.2.2.1, v0.2.2.2.2.2), AI cy 107 h2 v2, AI cy 75 h7 v7, AI cy 3 h8 v8]) X dX8_sharpest_2 ck_X8 ct_X8 0 0 0 rfl rfl (Nat.le_of_ble_eq_true rfl) lkf_X8_39 rfl rfl rfl (Nat.le_of_ble_eq_true rfl) rfl ?_
  refine g_aload_n X dX8_sharpest_5 0 rfl rfl ?_
  refine g_aload_n X dX8_sharpest_6 0 rfl rfl ?_
  refine g_get X dX8_sharpest_7 ck_X8 0 0 3 rfl rfl (Nat.le_of_ble_eq_true rfl) lkf_X8_13 rfl ?_
  obtain ⟨q1427, hq1427, hf⟩ := obind hf
  refine g_callV (gs' := [MO h0 h1 h2 h3 h4 h5 h6 h7 h8 q1427.1, AI cy 107 h2 v2, AI cy 75 h7 q1427.2, AI cy 3 h8 v8]) (rest := []) X dX8_sharpest_10 (c_X8_gather l D cy ad h0 h1 h2 h3 h4 h5 h6 h7 h8 h2 ((0 : Int32), v0.2.1, v0.2.2.1, v0.2.2.2.1, v0.2.2.2.2.1, v0.2.2.2.2.2) v7 v2 hq1427) mf_X8_gather mv_X8_gather lkm_X8_193 ⟨(Nat.le_of_ble_eq_true rfl), (Nat.le_of_ble_eq_true rfl), (Nat.le_of_ble_eq_true rfl), (Nat.le_of_ble_eq_true rfl)⟩ 0 0 rfl rfl rfl rfl [0, 2, 1, 3] _ (by decide : [0, 2, 1, 3].Perm (List.range 4)) rfl (by decide : [0, 2, 1, 3].Perm (List.range 4)) rfl (Nat.le_of_ble_eq_true rfl) rfl ?_
  refine g_iconst X (-1 : Int32) dX8_sharpest_13 (by decide) ?_
  refine g_istore_n (lv' := [(0, .ref h0), (1, .int (-1 : Int32))]) X dX8_sharpest_14 [1, 0] rfl (Nat.le_of_ble_eq_true rfl) rfl ?_
  refine g_iconst X (0 : Int32) dX8_sharpest_15 (by decide) ?_
  refine g_istore_n (lv' := [(0, .ref h0), (1, .int (-1 : Int32)), (2, .int (0 : Int32))]) X dX8_sharpest_16 [1, 2, 0] rfl (Nat.le_of_ble_eq_true rfl) rfl ?_
  refine g_iconst X (0 : Int32) dX8_sharpest_17 (by decide) ?_
  refine g_istore_n (lv' := [(0, .ref h0), (1, .int (-1 : Int32)), (2, .int (0 : Int32)), (3, .int (0 : Int32))]) X dX8_sharpest_18 [1, 2, 3, 0] rfl (Nat.le_of_ble_eq_true rfl) rfl ?_
  obtain ⟨q1438, hq1438, hf⟩ := obind hf
  refine w_X8_sharpest_B19 X hr q1427.1 v2 q1427.2 hq1438 ?_
  refine g_iload_n X dX8_sharpest_184 0 rfl rfl ?_
  have hf := Option.some.inj hf
  subst hf
  exact g_iret X hr dX8_sharpest_185
abbrev rmX8_needs : Room := ({ frames := 7, cells := 0, slots := 0, locals := 160 } : Room)
def f_X8_needs (v0 : MOv) (v2 : Fn) : Option (Int32 × MOv) :=
  (f_X8_needsOf v2).bind (fun q1441 => some (q1441, ((0 : Int32), v0.2.1, v0.2.2.1, v0.2.2.2.1, v0.2.2.2.2.1, v0.2.2.2.2.2)))
set_option maxRecDepth 100000 in
set_option maxHeartbeats 4000000 in
theorem c_X8_needs (l : Launch) (D : va_G) (cy : Nat → ClassId) (ad : (Nat → Nat) × (Nat → Nat)) (h0 : Nat) (h1 : Nat) (h2 : Nat) (h3 : Nat) (h4 : Nat) (h5 : Nat) (h6 : Nat) (h7 : Nat) (h8 : Nat) (v0 : MOv) (v2 : Fn) {q : Int32 × MOv} (hf : f_X8_needs v0 v2 = some q) : CM l yX8_needs cX8_needs 1 (some .int) rmX8_needs D cy ad [.ref h0] [MO h0 h1 h2 h3 h4 h5 h6 h7 h8 v0, AI cy 107 h2 v2] (some (.int q.1)) [MO h0 h1 h2 h3 h4 h5 h6 h7 h8 q.2, AI cy 107 h2 v2] := by
  refine cm_of (lv0 := [(0, .ref h0)]) (by decide) (Nat.le_of_ble_eq_true rfl) rfl ?_
  intro p e s m args below meth c A X hr hn
  have X : gK p s m args meth c A D cy ad cX8_needs 1 RX8 := X
  unfold f_X8_needs at hf
  refine g_aload_n X dX8_needs_0 0 rfl rfl ?_
  refine g_iconst X (0 : Int32) dX8_needs_1 (by decide) ?_
  refine g_put (gs' := [MO h0 h1 h2 h3 h4 h5 h6 h7 h8 ((0 : Int32), v0.2.1, v0.2.2.1, v0.2.2.2.1, v0.2.2.2.2.1, v0.2.2.2.2.2), AI cy 107 h2 v2]) X dX8_needs_2 ck_X8 ct_X8 0 0 0 rfl rfl (Nat.le_of_ble_eq_true rfl) lkf_X8_39 rfl rfl rfl (Nat.le_of_ble_eq_true rfl) rfl ?_
  refine g_aload_n X dX8_needs_5 0 rfl rfl ?_
  refine g_get X dX8_needs_6 ck_X8 0 0 3 rfl rfl (Nat.le_of_ble_eq_true rfl) lkf_X8_13 rfl ?_
  obtain ⟨q1441, hq1441, hf⟩ := obind hf
  refine g_callS (gs' := [MO h0 h1 h2 h3 h4 h5 h6 h7 h8 ((0 : Int32), v0.2.1, v0.2.2.1, v0.2.2.2.1, v0.2.2.2.2.1, v0.2.2.2.2.2), AI cy 107 h2 v2]) (rest := []) X dX8_needs_9 (c_X8_needsOf l D cy ad h2 v2 hq1441) mf_X8_needsOf ms_X8_needsOf lkm_X8_199 ⟨(Nat.le_of_ble_eq_true rfl), (Nat.le_of_ble_eq_true rfl), (Nat.le_of_ble_eq_true rfl), (Nat.le_of_ble_eq_true rfl)⟩ [1, 0] _ (by decide : [1, 0].Perm (List.range 2)) rfl (by decide : [1, 0].Perm (List.range 2)) rfl (Nat.le_of_ble_eq_true rfl) rfl ?_
  have hf := Option.some.inj hf
  subst hf
  exact g_iret X hr dX8_needs_12
abbrev rmX8_bestArms : Room := ({ frames := 5, cells := 0, slots := 0, locals := 116 } : Room)
def f_X8_bestArms_B52_b120 (v0 : MOv) (v2 : Fn) (v7 : Fn) (v8 : Fn) (x1 : Int32) (x2 : Int32) (x3 : Int32) (x5 : Int32) (x6 : Int32) (y0 : Int32) : Option ((Int32 × Int32 × Int32 × Fn) ⊕ ((Int32 × Int32 × Fn))) :=
  some (.inl (x3, y0, (x6 + (1 : Int32)), v8))
set_option maxRecDepth 100000 in
set_option maxHeartbeats 4000000 in
theorem j_X8_bestArms_B52_b120 {p : Program} {l : Launch} {e : Env} {s : State} {m : MethodId} {args : Array Value} {below : List Frame} {meth : Method} {c : Code} {A : Nat → Prop} {D : va_G} {cy : Nat → ClassId} {ad : (Nat → Nat) × (Nat → Nat)} {Q : State → Prop} (X : gK p s m args meth c A D cy ad cX8_bestArms 9 RX8) (hr : meth.sig.returnType = (some .int)) {h0 h1 h2 h3 h4 h5 h6 h7 h8 : Nat} (v0 : MOv) (v2 : Fn) (v7 : Fn) (v8 : Fn) (x1 : Int32) (x2 : Int32) (x3 : Int32) (x5 : Int32) (x6 : Int32) (y0 : Int32) {q : (Int32 × Int32 × Int32 × Fn) ⊕ ((Int32 × Int32 × Fn))} (hf : f_X8_bestArms_B52_b120 v0 v2 v7 v8 x1 x2 x3 x5 x6 y0 = some q) (K1 : ∀ s' : Int32 × Int32 × Int32 × Fn, q = .inl s' → GW p l e rmX8_bestArms s m args below meth c A D 9 0 0 Q 52 [(0, .ref h0), (1, .int x1), (2, .int x2), (3, .int s'.1), (4, .int s'.2.1), (5, .int x5), (6, .int s'.2.2.1)] [] [MO h0 h1 h2 h3 h4 h5 h6 h7 h8 v0, AI cy 107 h2 v2, AI cy 75 h7 v7, AI cy 3 h8 s'.2.2.2]) (K2 : ∀ e' : Int32 × Int32 × Fn, q = .inr (e') → GW p l e rmX8_bestArms s m args below meth c A D 9 0 0 Q 128 [(0, .ref h0), (1, .int x1), (2, .int x2), (3, .int e'.1), (4, .int e'.2.1), (5, .int x5)] [] [MO h0 h1 h2 h3 h4 h5 h6 h7 h8 v0, AI cy 107 h2 v2, AI cy 75 h7 v7, AI cy 3 h8 e'.2.2]) : GW p l e rmX8_bestArms s m args below meth c A D 9 0 0 Q 120 [(0, .ref h0), (1, .int x1), (2, .int x2), (3, .int x3), (5, .int x5), (6, .int x6)] [.int y0] [MO h0 h1 h2 h3 h4 h5 h6 h7 h8 v0, AI cy 107 h2 v2, AI cy 75 h7 v7, AI cy 3 h8 v8] := by
  unfold f_X8_bestArms_B52_b120 at hf
  refine g_istore (lv' := [(0, .ref h0), (1, .int x1), (2, .int x2), (3, .int x3), (4, .int y0), (5, .int x5), (6, .int x6)]) X dX8_bestArms_120 [1, 2, 3, 4, 0, 5, 6] (Nat.le_of_ble_eq_true rfl) rfl ?_
  refine g_iinc (lv' := [(0, .ref h0), (1, .int x1), (2, .int x2), (3, .int x3), (4, .int y0), (5, .int x5), (6, .int (x6 + (1 : Int32)))]) (v := (1 : Int32)) X dX8_bestArms_122 6 rfl (by decide) [1, 2, 3, 4, 5, 6, 0] (Nat.le_of_ble_eq_true rfl) rfl ?_
  refine g_goto X 52 dX8_bestArms_125 (by decide) ?_
  exact K1 (x3, y0, (x6 + (1 : Int32)), v8) (Option.some.inj hf).symm
def f_X8_bestArms_B52_b107 (v0 : MOv) (v2 : Fn) (v7 : Fn) (v8 : Fn) (x1 : Int32) (x2 : Int32) (x4 : Int32) (x5 : Int32) (x6 : Int32) (x7 : Int32) (x8 : Int32) (y0 : Int32) : Option ((Int32 × Int32 × Int32 × Fn) ⊕ ((Int32 × Int32 × Fn))) :=
  if x8 = 0 then f_X8_bestArms_B52_b120 v0 v2 v7 v8 x1 x2 y0 x5 x6 x4 else f_X8_bestArms_B52_b120 v0 v2 v7 v8 x1 x2 y0 x5 x6 x7
set_option maxRecDepth 100000 in
set_option maxHeartbeats 4000000 in
theorem j_X8_bestArms_B52_b107 {p : Program} {l : Launch} {e : Env} {s : State} {m : MethodId} {args : Array Value} {below : List Frame} {meth : Method} {c : Code} {A : Nat → Prop} {D : va_G} {cy : Nat → ClassId} {ad : (Nat → Nat) × (Nat → Nat)} {Q : State → Prop} (X : gK p s m args meth c A D cy ad cX8_bestArms 9 RX8) (hr : meth.sig.returnType = (some .int)) {h0 h1 h2 h3 h4 h5 h6 h7 h8 : Nat} (v0 : MOv) (v2 : Fn) (v7 : Fn) (v8 : Fn) (x1 : Int32) (x2 : Int32) (x4 : Int32) (x5 : Int32) (x6 : Int32) (x7 : Int32) (x8 : Int32) (y0 : Int32) {q : (Int32 × Int32 × Int32 × Fn) ⊕ ((Int32 × Int32 × Fn))} (hf : f_X8_bestArms_B52_b107 v0 v2 v7 v8 x1 x2 x4 x5 x6 x7 x8 y0 = some q) (K1 : ∀ s' : Int32 × Int32 × Int32 × Fn, q = .inl s' → GW p l e rmX8_bestArms s m args below meth c A D 9 0 0 Q 52 [(0, .ref h0), (1, .int x1), (2, .int x2), (3, .int s'.1), (4, .int s'.2.1), (5, .int x5), (6, .int s'.2.2.1)] [] [MO h0 h1 h2 h3 h4 h5 h6 h7 h8 v0, AI cy 107 h2 v2, AI cy 75 h7 v7, AI cy 3 h8 s'.2.2.2]) (K2 : ∀ e' : Int32 × Int32 × Fn, q = .inr (e') → GW p l e rmX8_bestArms s m args below meth c A D 9 0 0 Q 128 [(0, .ref h0), (1, .int x1), (2, .int x2), (3, .int e'.1), (4, .int e'.2.1), (5, .int x5)] [] [MO h0 h1 h2 h3 h4 h5 h6 h7 h8 v0, AI cy 107 h2 v2, AI cy 75 h7 v7, AI cy 3 h8 e'.2.2]) : GW p l e rmX8_bestArms s m args below meth c A D 9 0 0 Q 107 [(0, .ref h0), (1, .int x1), (2, .int x2), (4, .int x4), (5, .int x5), (6, .int x6), (7, .int x7), (8, .int x8)] [.int y0] [MO h0 h1 h2 h3 h4 h5 h6 h7 h8 v0, AI cy 107 h2 v2, AI cy 75 h7 v7, AI cy 3 h8 v8] := by
  unfold f_X8_bestArms_B52_b107 at hf
  refine g_istore_n (lv' := [(0, .ref h0), (1, .int x1), (2, .int x2), (3, .int y0), (4, .int x4), (5, .int x5), (6, .int x6), (7, .int x7), (8, .int x8)]) X dX8_bestArms_107 [1, 2, 3, 0, 4, 5, 6, 7, 8] rfl (Nat.le_of_ble_eq_true rfl) rfl ?_
  refine g_iload X dX8_bestArms_108 8 rfl ?_
  refine g_if_eq X 118 dX8_bestArms_110 (by decide) (fun c1454 => ?_) (fun c1454 => ?_)
  · have hf := opos c1454 hf
    refine g_iload X dX8_bestArms_118 4 rfl ?_
    refine g_sub [0, 1, 2, 3, 5, 6] (lv' := [(0, .ref h0), (1, .int x1), (2, .int x2), (3, .int y0), (5, .int x5), (6, .int x6)]) rfl ?_
    exact j_X8_bestArms_B52_b120 X hr v0 v2 v7 v8 x1 x2 y0 x5 x6 x4 hf K1 K2
  · have hf := oneg c1454 hf
    refine g_iload X dX8_bestArms_113 7 rfl ?_
    refine g_goto X 120 dX8_bestArms_115 (by decide) ?_
    refine g_sub [0, 1, 2, 3, 5, 6] (lv' := [(0, .ref h0), (1, .int x1), (2, .int x2), (3, .int y0), (5, .int x5), (6, .int x6)]) rfl ?_
    exact j_X8_bestArms_B52_b120 X hr v0 v2 v7 v8 x1 x2 y0 x5 x6 x7 hf K1 K2
def f_X8_bestArms_B52_b88 (v0 : MOv) (v2 : Fn) (v7 : Fn) (v8 : Fn) (x1 : Int32) (x2 : Int32) (x3 : Int32) (x4 : Int32) (x5 : Int32) (x6 : Int32) (x7 : Int32) (y0 : Bool) : Option ((Int32 × Int32 × Int32 × Fn) ⊕ ((Int32 × Int32 × Fn))) :=
  if (b2i y0) = 0 then f_X8_bestArms_B52_b107 v0 v2 v7 v8 x1 x2 x4 x5 x6 x7 (b2i y0) x3 else f_X8_bestArms_B52_b107 v0 v2 v7 v8 x1 x2 x4 x5 x6 x7 (b2i y0) (((100 : Int32) * x5) + x6)
set_option maxRecDepth 100000 in
set_option maxHeartbeats 4000000 in
theorem j_X8_bestArms_B52_b88 {p : Program} {l : Launch} {e : Env} {s : State} {m : MethodId} {args : Array Value} {below : List Frame} {meth : Method} {c : Code} {A : Nat → Prop} {D : va_G} {cy : Nat → ClassId} {ad : (Nat → Nat) × (Nat → Nat)} {Q : State → Prop} (X : gK p s m args meth c A D cy ad cX8_bestArms 9 RX8) (hr : meth.sig.returnType = (some .int)) {h0 h1 h2 h3 h4 h5 h6 h7 h8 : Nat} (v0 : MOv) (v2 : Fn) (v7 : Fn) (v8 : Fn) (x1 : Int32) (x2 : Int32) (x3 : Int32) (x4 : Int32) (x5 : Int32) (x6 : Int32) (x7 : Int32) (y0 : Bool) {q : (Int32 × Int32 × Int32 × Fn) ⊕ ((Int32 × Int32 × Fn))} (hf : f_X8_bestArms_B52_b88 v0 v2 v7 v8 x1 x2 x3 x4 x5 x6 x7 y0 = some q) (K1 : ∀ s' : Int32 × Int32 × Int32 × Fn, q = .inl s' → GW p l e rmX8_bestArms s m args below meth c A D 9 0 0 Q 52 [(0, .ref h0), (1, .int x1), (2, .int x2), (3, .int s'.1), (4, .int s'.2.1), (5, .int x5), (6, .int s'.2.2.1)] [] [MO h0 h1 h2 h3 h4 h5 h6 h7 h8 v0, AI cy 107 h2 v2, AI cy 75 h7 v7, AI cy 3 h8 s'.2.2.2]) (K2 : ∀ e' : Int32 × Int32 × Fn, q = .inr (e') → GW p l e rmX8_bestArms s m args below meth c A D 9 0 0 Q 128 [(0, .ref h0), (1, .int x1), (2, .int x2), (3, .int e'.1), (4, .int e'.2.1), (5, .int x5)] [] [MO h0 h1 h2 h3 h4 h5 h6 h7 h8 v0, AI cy 107 h2 v2, AI cy 75 h7 v7, AI cy 3 h8 e'.2.2]) : GW p l e rmX8_bestArms s m args below meth c A D 9 0 0 Q 88 [(0, .ref h0), (1, .int x1), (2, .int x2), (3, .int x3), (4, .int x4), (5, .int x5), (6, .int x6), (7, .int x7)] [.int (b2i y0)] [MO h0 h1 h2 h3 h4 h5 h6 h7 h8 v0, AI cy 107 h2 v2, AI cy 75 h7 v7, AI cy 3 h8 v8] := by
  unfold f_X8_bestArms_B52_b88 at hf
  refine g_istore (lv' := [(0, .ref h0), (1, .int x1), (2, .int x2), (3, .int x3), (4, .int x4), (5, .int x5), (6, .int x6), (7, .int x7), (8, .int (b2i y0))]) X dX8_bestArms_88 [1, 2, 3, 4, 5, 6, 7, 8, 0] (Nat.le_of_ble_eq_true rfl) rfl ?_
  refine g_iload X dX8_bestArms_90 8 rfl ?_
  refine g_if_eq X 106 dX8_bestArms_92 (by decide) (fun c1455 => ?_) (fun c1455 => ?_)
  · have hf := opos c1455 hf
    refine g_iload_n X dX8_bestArms_106 3 rfl rfl ?_
    refine g_sub [0, 1, 2, 4, 5, 6, 7, 8] (lv' := [(0, .ref h0), (1, .int x1), (2, .int x2), (4, .int x4), (5, .int x5), (6, .int x6), (7, .int x7), (8, .int (b2i y0))]) rfl ?_
    exact j_X8_bestArms_B52_b107 X hr v0 v2 v7 v8 x1 x2 x4 x5 x6 x7 (b2i y0) x3 hf K1 K2
  · have hf := oneg c1455 hf
    refine g_bipush X (100 : Int32) dX8_bestArms_95 (by decide) ?_
    refine g_iload X dX8_bestArms_97 5 rfl ?_
    refine g_imul X dX8_bestArms_99 ?_
    refine g_iload X dX8_bestArms_100 6 rfl ?_
    refine g_iadd X dX8_bestArms_102 ?_
    refine g_goto X 107 dX8_bestArms_103 (by decide) ?_
    refine g_sub [0, 1, 2, 4, 5, 6, 7, 8] (lv' := [(0, .ref h0), (1, .int x1), (2, .int x2), (4, .int x4), (5, .int x5), (6, .int x6), (7, .int x7), (8, .int (b2i y0))]) rfl ?_
    exact j_X8_bestArms_B52_b107 X hr v0 v2 v7 v8 x1 x2 x4 x5 x6 x7 (b2i y0) (((100 : Int32) * x5) + x6) hf K1 K2
def f_X8_bestArms_B52_b83 (v0 : MOv) (v2 : Fn) (v7 : Fn) (v8 : Fn) (x1 : Int32) (x2 : Int32) (x3 : Int32) (x4 : Int32) (x5 : Int32) (x6 : Int32) (x7 : Int32) : Option ((Int32 × Int32 × Int32 × Fn) ⊕ ((Int32 × Int32 × Fn))) :=
  f_X8_bestArms_B52_b88 v0 v2 v7 v8 x1 x2 x3 x4 x5 x6 x7 true
set_option maxRecDepth 100000 in
set_option maxHeartbeats 4000000 in
theorem j_X8_bestArms_B52_b83 {p : Program} {l : Launch} {e : Env} {s : State} {m : MethodId} {args : Array Value} {below : List Frame} {meth : Method} {c : Code} {A : Nat → Prop} {D : va_G} {cy : Nat → ClassId} {ad : (Nat → Nat) × (Nat → Nat)} {Q : State → Prop} (X : gK p s m args meth c A D cy ad cX8_bestArms 9 RX8) (hr : meth.sig.returnType = (some .int)) {h0 h1 h2 h3 h4 h5 h6 h7 h8 : Nat} (v0 : MOv) (v2 : Fn) (v7 : Fn) (v8 : Fn) (x1 : Int32) (x2 : Int32) (x3 : Int32) (x4 : Int32) (x5 : Int32) (x6 : Int32) (x7 : Int32) {q : (Int32 × Int32 × Int32 × Fn) ⊕ ((Int32 × Int32 × Fn))} (hf : f_X8_bestArms_B52_b83 v0 v2 v7 v8 x1 x2 x3 x4 x5 x6 x7 = some q) (K1 : ∀ s' : Int32 × Int32 × Int32 × Fn, q = .inl s' → GW p l e rmX8_bestArms s m args below meth c A D 9 0 0 Q 52 [(0, .ref h0), (1, .int x1), (2, .int x2), (3, .int s'.1), (4, .int s'.2.1), (5, .int x5), (6, .int s'.2.2.1)] [] [MO h0 h1 h2 h3 h4 h5 h6 h7 h8 v0, AI cy 107 h2 v2, AI cy 75 h7 v7, AI cy 3 h8 s'.2.2.2]) (K2 : ∀ e' : Int32 × Int32 × Fn, q = .inr (e') → GW p l e rmX8_bestArms s m args below meth c A D 9 0 0 Q 128 [(0, .ref h0), (1, .int x1), (2, .int x2), (3, .int e'.1), (4, .int e'.2.1), (5, .int x5)] [] [MO h0 h1 h2 h3 h4 h5 h6 h7 h8 v0, AI cy 107 h2 v2, AI cy 75 h7 v7, AI cy 3 h8 e'.2.2]) : GW p l e rmX8_bestArms s m args below meth c A D 9 0 0 Q 83 [(0, .ref h0), (1, .int x1), (2, .int x2), (3, .int x3), (4, .int x4), (5, .int x5), (6, .int x6), (7, .int x7)] [] [MO h0 h1 h2 h3 h4 h5 h6 h7 h8 v0, AI cy 107 h2 v2, AI cy 75 h7 v7, AI cy 3 h8 v8] := by
  unfold f_X8_bestArms_B52_b83 at hf
  refine g_iconst X (1 : Int32) dX8_bestArms_83 (by decide) ?_
  refine g_goto X 88 dX8_bestArms_84 (by decide) ?_
  exact j_X8_bestArms_B52_b88 X hr v0 v2 v7 v8 x1 x2 x3 x4 x5 x6 x7 true hf K1 K2
def f_X8_bestArms_B52 (v0 : MOv) (v2 : Fn) (v7 : Fn) (x1 : Int32) (x2 : Int32) (x5 : Int32) (z : Int32 × Int32 × Int32 × Fn) : Option ((Int32 × Int32 × Int32 × Fn) ⊕ ((Int32 × Int32 × Fn))) :=
  if (20 : Int32) < z.2.2.1 then some (.inr ((z.1, z.2.1, z.2.2.2))) else (f_X8_worst v0 v7 z.2.2.2 x1 x2 x5 z.2.2.1).bind (fun q1453 => if z.1 = (-1 : Int32) then f_X8_bestArms_B52_b83 v0 v2 v7 q1453.2 x1 x2 z.1 z.2.1 x5 z.2.2.1 q1453.1 else if z.2.1 ≤ q1453.1 then f_X8_bestArms_B52_b88 v0 v2 v7 q1453.2 x1 x2 z.1 z.2.1 x5 z.2.2.1 q1453.1 false else f_X8_bestArms_B52_b83 v0 v2 v7 q1453.2 x1 x2 z.1 z.2.1 x5 z.2.2.1 q1453.1)
set_option maxRecDepth 100000 in
set_option maxHeartbeats 4000000 in
theorem b_X8_bestArms_B52 {p : Program} {l : Launch} {e : Env} {s : State} {m : MethodId} {args : Array Value} {below : List Frame} {meth : Method} {c : Code} {A : Nat → Prop} {D : va_G} {cy : Nat → ClassId} {ad : (Nat → Nat) × (Nat → Nat)} {Q : State → Prop} (X : gK p s m args meth c A D cy ad cX8_bestArms 9 RX8) (hr : meth.sig.returnType = (some .int)) {h0 h1 h2 h3 h4 h5 h6 h7 h8 : Nat} (v0 : MOv) (v2 : Fn) (v7 : Fn) (x1 : Int32) (x2 : Int32) (x5 : Int32) (z : Int32 × Int32 × Int32 × Fn) {q : (Int32 × Int32 × Int32 × Fn) ⊕ ((Int32 × Int32 × Fn))} (hf : f_X8_bestArms_B52 v0 v2 v7 x1 x2 x5 z = some q) (K1 : ∀ s' : Int32 × Int32 × Int32 × Fn, q = .inl s' → GW p l e rmX8_bestArms s m args below meth c A D 9 0 0 Q 52 [(0, .ref h0), (1, .int x1), (2, .int x2), (3, .int s'.1), (4, .int s'.2.1), (5, .int x5), (6, .int s'.2.2.1)] [] [MO h0 h1 h2 h3 h4 h5 h6 h7 h8 v0, AI cy 107 h2 v2, AI cy 75 h7 v7, AI cy 3 h8 s'.2.2.2]) (K2 : ∀ e' : Int32 × Int32 × Fn, q = .inr (e') → GW p l e rmX8_bestArms s m args below meth c A D 9 0 0 Q 128 [(0, .ref h0), (1, .int x1), (2, .int x2), (3, .int e'.1), (4, .int e'.2.1), (5, .int x5)] [] [MO h0 h1 h2 h3 h4 h5 h6 h7 h8 v0, AI cy 107 h2 v2, AI cy 75 h7 v7, AI cy 3 h8 e'.2.2]) : GW p l e rmX8_bestArms s m args below meth c A D 9 0 0 Q 52 [(0, .ref h0), (1, .int x1), (2, .int x2), (3, .int z.1), (4, .int z.2.1), (5, .int x5), (6, .int z.2.2.1)] [] [MO h0 h1 h2 h3 h4 h5 h6 h7 h8 v0, AI cy 107 h2 v2, AI cy 75 h7 v7, AI cy 3 h8 z.2.2.2] := by
  unfold f_X8_bestArms_B52 at hf
  refine g_iload X dX8_bestArms_52 6 rfl ?_
  refine g_bipush X (20 : Int32) dX8_bestArms_54 (by decide) ?_
  refine g_icmp_gt X 128 dX8_bestArms_56 (by decide) (fun c1458 => ?_) (fun c1458 => ?_)
  · have hf := opos c1458 hf
    refine g_sub [0, 1, 2, 3, 4, 5] (lv' := [(0, .ref h0), (1, .int x1), (2, .int x2), (3, .int z.1), (4, .int z.2.1), (5, .int x5)]) rfl ?_
    exact K2 (z.1, z.2.1, z.2.2.2) (Option.some.inj hf).symm
  · have hf := oneg c1458 hf
    refine g_aload_n X dX8_bestArms_59 0 rfl rfl ?_
    refine g_iload_n X dX8_bestArms_60 1 rfl rfl ?_
    refine g_iload_n X dX8_bestArms_61 2 rfl rfl ?_
    refine g_iload X dX8_bestArms_62 5 rfl ?_
    refine g_iload X dX8_bestArms_64 6 rfl ?_
    obtain ⟨q1453, hq1453, hf⟩ := obind hf
    refine g_callV (gs' := [MO h0 h1 h2 h3 h4 h5 h6 h7 h8 v0, AI cy 107 h2 v2, AI cy 75 h7 v7, AI cy 3 h8 q1453.2]) (rest := []) X dX8_bestArms_66 (c_X8_worst l D cy ad h0 h1 h2 h3 h4 h5 h6 h7 h8 v0 v7 z.2.2.2 x1 x2 x5 z.2.2.1 hq1453) mf_X8_worst mv_X8_worst lkm_X8_196 ⟨(Nat.le_of_ble_eq_true rfl), (Nat.le_of_ble_eq_true rfl), (Nat.le_of_ble_eq_true rfl), (Nat.le_of_ble_eq_true rfl)⟩ 0 0 rfl rfl rfl rfl [0, 2, 3, 1] _ (by decide : [0, 2, 3, 1].Perm (List.range 4)) rfl (by decide : [0, 2, 3, 1].Perm (List.range 4)) rfl (Nat.le_of_ble_eq_true rfl) rfl ?_
    refine g_istore (lv' := [(0, .ref h0), (1, .int x1), (2, .int x2), (3, .int z.1), (4, .int z.2.1), (5, .int x5), (6, .int z.2.2.1), (7, .int q1453.1)]) X dX8_bestArms_69 [1, 2, 3, 4, 5, 6, 7, 0] (Nat.le_of_ble_eq_true rfl) rfl ?_
    refine g_iload_n X dX8_bestArms_71 3 rfl rfl ?_
    refine g_iconst X (-1 : Int32) dX8_bestArms_72 (by decide) ?_
    refine g_icmp_eq X 83 dX8_bestArms_73 (by decide) (fun c1457 => ?_) (fun c1457 => ?_)
    · have hf := opos c1457 hf
      exact j_X8_bestArms_B52_b83 X hr v0 v2 v7 q1453.2 x1 x2 z.1 z.2.1 x5 z.2.2.1 q1453.1 hf K1 K2
    · have hf := oneg c1457 hf
      refine g_iload X dX8_bestArms_76 7 rfl ?_
      refine g_iload X dX8_bestArms_78 4 rfl ?_
      refine g_icmp_ge X 87 dX8_bestArms_80 (by decide) (fun c1456 => ?_) (fun c1456 => ?_)
      · have hf := opos c1456 hf
        refine g_iconst X (0 : Int32) dX8_bestArms_87 (by decide) ?_
        exact j_X8_bestArms_B52_b88 X hr v0 v2 v7 q1453.2 x1 x2 z.1 z.2.1 x5 z.2.2.1 q1453.1 false hf K1 K2
      · have hf := oneg c1456 hf
        exact j_X8_bestArms_B52_b83 X hr v0 v2 v7 q1453.2 x1 x2 z.1 z.2.1 x5 z.2.2.1 q1453.1 hf K1 K2
set_option maxRecDepth 100000 in
set_option maxHeartbeats 4000000 in
theorem w_X8_bestArms_B52 {p : Program} {l : Launch} {e : Env} {s : State} {m : MethodId} {args : Array Value} {below : List Frame} {meth : Method} {c : Code} {A : Nat → Prop} {D : va_G} {cy : Nat → ClassId} {ad : (Nat → Nat) × (Nat → Nat)} {Q : State → Prop} (X : gK p s m args meth c A D cy ad cX8_bestArms 9 RX8) (hr : meth.sig.returnType = (some .int)) {h0 h1 h2 h3 h4 h5 h6 h7 h8 : Nat} (v0 : MOv) (v2 : Fn) (v7 : Fn) (x1 : Int32) (x2 : Int32) (x5 : Int32) {n : Nat} {z : Int32 × Int32 × Int32 × Fn} {q : (Int32 × Int32 × Fn)} (hf : itl (f_X8_bestArms_B52 v0 v2 v7 x1 x2 x5) n z = some q) (K2 : GW p l e rmX8_bestArms s m args below meth c A D 9 0 0 Q 128 [(0, .ref h0), (1, .int x1), (2, .int x2), (3, .int q.1), (4, .int q.2.1), (5, .int x5)] [] [MO h0 h1 h2 h3 h4 h5 h6 h7 h8 v0, AI cy 107 h2 v2, AI cy 75 h7 v7, AI cy 3 h8 q.2.2]) : GW p l e rmX8_bestArms s m args below meth c A D 9 0 0 Q 52 [(0, .ref h0), (1, .int x1), (2, .int x2), (3, .int z.1), (4, .int z.2.1), (5, .int x5), (6, .int z.2.2.1)] [] [MO h0 h1 h2 h3 h4 h5 h6 h7 h8 v0, AI cy 107 h2 v2, AI cy 75 h7 v7, AI cy 3 h8 z.2.2.2] :=
  itl_ind (f := f_X8_bestArms_B52 v0 v2 v7 x1 x2 x5) (I := fun z => GW p l e rmX8_bestArms s m args below meth c A D 9 0 0 Q 52 [(0, .ref h0), (1, .int x1), (2, .int x2), (3, .int z.1), (4, .int z.2.1), (5, .int x5), (6, .int z.2.2.1)] [] [MO h0 h1 h2 h3 h4 h5 h6 h7 h8 v0, AI cy 107 h2 v2, AI cy 75 h7 v7, AI cy 3 h8 z.2.2.2]) (J := (fun q => GW p l e rmX8_bestArms s m args below meth c A D 9 0 0 Q 128 [(0, .ref h0), (1, .int x1), (2, .int x2), (3, .int q.1), (4, .int q.2.1), (5, .int x5)] [] [MO h0 h1 h2 h3 h4 h5 h6 h7 h8 v0, AI cy 107 h2 v2, AI cy 75 h7 v7, AI cy 3 h8 q.2.2])) (fun z x h k1 k2 => b_X8_bestArms_B52 X hr v0 v2 v7 x1 x2 x5 z h (fun s' hs => k1 s' hs) (fun e' he => k2 e' he)) n z q hf K2
def f_X8_bestArms_B42 (v0 : MOv) (v2 : Fn) (v7 : Fn) (x1 : Int32) (x2 : Int32) (z : Int32 × Int32 × Int32 × Fn) : Option ((Int32 × Int32 × Int32 × Fn) ⊕ ((Int32 × Fn))) :=
  if (20 : Int32) < z.2.2.1 then some (.inr ((z.1, z.2.2.2))) else (itl (f_X8_bestArms_B52 v0 v2 v7 x1 x2 z.2.2.1) FU (z.1, z.2.1, (1 : Int32), z.2.2.2)).bind (fun q1459 => some (.inl (q1459.1, q1459.2.1, (z.2.2.1 + (1 : Int32)), q1459.2.2)))
set_option maxRecDepth 100000 in
set_option maxHeartbeats 4000000 in
theorem b_X8_bestArms_B42 {p : Program} {l : Launch} {e : Env} {s : State} {m : MethodId} {args : Array Value} {below : List Frame} {meth : Method} {c : Code} {A : Nat → Prop} {D : va_G} {cy : Nat → ClassId} {ad : (Nat → Nat) × (Nat → Nat)} {Q : State → Prop} (X : gK p s m args meth c A D cy ad cX8_bestArms 9 RX8) (hr : meth.sig.returnType = (some .int)) {h0 h1 h2 h3 h4 h5 h6 h7 h8 : Nat} (v0 : MOv) (v2 : Fn) (v7 : Fn) (x1 : Int32) (x2 : Int32) (z : Int32 × Int32 × Int32 × Fn) {q : (Int32 × Int32 × Int32 × Fn) ⊕ ((Int32 × Fn))} (hf : f_X8_bestArms_B42 v0 v2 v7 x1 x2 z = some q) (K1 : ∀ s' : Int32 × Int32 × Int32 × Fn, q = .inl s' → GW p l e rmX8_bestArms s m args below meth c A D 9 0 0 Q 42 [(0, .ref h0), (1, .int x1), (2, .int x2), (3, .int s'.1), (4, .int s'.2.1), (5, .int s'.2.2.1)] [] [MO h0 h1 h2 h3 h4 h5 h6 h7 h8 v0, AI cy 107 h2 v2, AI cy 75 h7 v7, AI cy 3 h8 s'.2.2.2]) (K2 : ∀ e' : Int32 × Fn, q = .inr (e') → GW p l e rmX8_bestArms s m args below meth c A D 9 0 0 Q 134 [(3, .int e'.1)] [] [MO h0 h1 h2 h3 h4 h5 h6 h7 h8 v0, AI cy 107 h2 v2, AI cy 75 h7 v7, AI cy 3 h8 e'.2]) : GW p l e rmX8_bestArms s m args below meth c A D 9 0 0 Q 42 [(0, .ref h0), (1, .int x1), (2, .int x2), (3, .int z.1), (4, .int z.2.1), (5, .int z.2.2.1)] [] [MO h0 h1 h2 h3 h4 h5 h6 h7 h8 v0, AI cy 107 h2 v2, AI cy 75 h7 v7, AI cy 3 h8 z.2.2.2] := by
  unfold f_X8_bestArms_B42 at hf
  refine g_iload X dX8_bestArms_42 5 rfl ?_
  refine g_bipush X (20 : Int32) dX8_bestArms_44 (by decide) ?_
  refine g_icmp_gt X 134 dX8_bestArms_46 (by decide) (fun c1460 => ?_) (fun c1460 => ?_)
  · have hf := opos c1460 hf
    refine g_sub [3] (lv' := [(3, .int z.1)]) rfl ?_
    exact K2 (z.1, z.2.2.2) (Option.some.inj hf).symm
  · have hf := oneg c1460 hf
    refine g_iconst X (1 : Int32) dX8_bestArms_49 (by decide) ?_
    refine g_istore (lv' := [(0, .ref h0), (1, .int x1), (2, .int x2), (3, .int z.1), (4, .int z.2.1), (5, .int z.2.2.1), (6, .int (1 : Int32))]) X dX8_bestArms_50 [1, 2, 3, 4, 5, 6, 0] (Nat.le_of_ble_eq_true rfl) rfl ?_
    obtain ⟨q1459, hq1459, hf⟩ := obind hf
    refine w_X8_bestArms_B52 X hr v0 v2 v7 x1 x2 z.2.2.1 hq1459 ?_
    refine g_iinc (lv' := [(0, .ref h0), (1, .int x1), (2, .int x2), (3, .int q1459.1), (4, .int q1459.2.1), (5, .int (z.2.2.1 + (1 : Int32)))]) (v := (1 : Int32)) X dX8_bestArms_128 5 rfl (by decide) [1, 2, 3, 4, 5, 0] (Nat.le_of_ble_eq_true rfl) rfl ?_
    refine g_goto X 42 dX8_bestArms_131 (by decide) ?_
    exact K1 (q1459.1, q1459.2.1, (z.2.2.1 + (1 : Int32)), q1459.2.2) (Option.some.inj hf).symm
set_option maxRecDepth 100000 in
set_option maxHeartbeats 4000000 in
theorem w_X8_bestArms_B42 {p : Program} {l : Launch} {e : Env} {s : State} {m : MethodId} {args : Array Value} {below : List Frame} {meth : Method} {c : Code} {A : Nat → Prop} {D : va_G} {cy : Nat → ClassId} {ad : (Nat → Nat) × (Nat → Nat)} {Q : State → Prop} (X : gK p s m args meth c A D cy ad cX8_bestArms 9 RX8) (hr : meth.sig.returnType = (some .int)) {h0 h1 h2 h3 h4 h5 h6 h7 h8 : Nat} (v0 : MOv) (v2 : Fn) (v7 : Fn) (x1 : Int32) (x2 : Int32) {n : Nat} {z : Int32 × Int32 × Int32 × Fn} {q : (Int32 × Fn)} (hf : itl (f_X8_bestArms_B42 v0 v2 v7 x1 x2) n z = some q) (K2 : GW p l e rmX8_bestArms s m args below meth c A D 9 0 0 Q 134 [(3, .int q.1)] [] [MO h0 h1 h2 h3 h4 h5 h6 h7 h8 v0, AI cy 107 h2 v2, AI cy 75 h7 v7, AI cy 3 h8 q.2]) : GW p l e rmX8_bestArms s m args below meth c A D 9 0 0 Q 42 [(0, .ref h0), (1, .int x1), (2, .int x2), (3, .int z.1), (4, .int z.2.1), (5, .int z.2.2.1)] [] [MO h0 h1 h2 h3 h4 h5 h6 h7 h8 v0, AI cy 107 h2 v2, AI cy 75 h7 v7, AI cy 3 h8 z.2.2.2] :=
  itl_ind (f := f_X8_bestArms_B42 v0 v2 v7 x1 x2) (I := fun z => GW p l e rmX8_bestArms s m args below meth c A D 9 0 0 Q 42 [(0, .ref h0), (1, .int x1), (2, .int x2), (3, .int z.1), (4, .int z.2.1), (5, .int z.2.2.1)] [] [MO h0 h1 h2 h3 h4 h5 h6 h7 h8 v0, AI cy 107 h2 v2, AI cy 75 h7 v7, AI cy 3 h8 z.2.2.2]) (J := (fun q => GW p l e rmX8_bestArms s m args below meth c A D 9 0 0 Q 134 [(3, .int q.1)] [] [MO h0 h1 h2 h3 h4 h5 h6 h7 h8 v0, AI cy 107 h2 v2, AI cy 75 h7 v7, AI cy 3 h8 q.2])) (fun z x h k1 k2 => b_X8_bestArms_B42 X hr v0 v2 v7 x1 x2 z h (fun s' hs => k1 s' hs) (fun e' he => k2 e' he)) n z q hf K2
def f_X8_bestArms_b18 (v0 : MOv) (v2 : Fn) (v7 : Fn) (v8 : Fn) (x1 : Int32) (x2 : Int32) (y0 : Bool) : Option (Int32 × MOv × Fn × Fn) :=
  (f_X8_refused v0 (b2i y0)).bind (fun q1451 => if (b2i q1451.1) = 0 then (f_X8_gather q1451.2 v7 v2).bind (fun q1452 => (itl (f_X8_bestArms_B42 q1452.1 v2 q1452.2 x1 x2) FU ((-1 : Int32), (0 : Int32), (1 : Int32), v8)).bind (fun q1461 => some (q1461.1, q1452.1, q1452.2, q1461.2))) else some ((0 : Int32), q1451.2, v7, v8))
set_option maxRecDepth 100000 in
set_option maxHeartbeats 4000000 in
theorem j_X8_bestArms_b18 {p : Program} {l : Launch} {e : Env} {s : State} {m : MethodId} {args : Array Value} {below : List Frame} {meth : Method} {c : Code} {A : Nat → Prop} {D : va_G} {cy : Nat → ClassId} {ad : (Nat → Nat) × (Nat → Nat)} (X : gK p s m args meth c A D cy ad cX8_bestArms 9 RX8) (hr : meth.sig.returnType = (some .int)) {h0 h1 h2 h3 h4 h5 h6 h7 h8 : Nat} (v0 : MOv) (v2 : Fn) (v7 : Fn) (v8 : Fn) (x1 : Int32) (x2 : Int32) (y0 : Bool) {q : Int32 × MOv × Fn × Fn} (hf : f_X8_bestArms_b18 v0 v2 v7 v8 x1 x2 y0 = some q) : GW p l e rmX8_bestArms s m args below meth c A D 9 0 0 (MQ below (cmQ D cy A (some (.int q.1)) ([MO h0 h1 h2 h3 h4 h5 h6 h7 h8 q.2.1, AI cy 107 h2 v2, AI cy 75 h7 q.2.2.1, AI cy 3 h8 q.2.2.2] : List va_W).flatten) args s 0 0 A) 18 [(0, .ref h0), (1, .int x1), (2, .int x2)] [.int (b2i y0), .ref h0] [MO h0 h1 h2 h3 h4 h5 h6 h7 h8 v0, AI cy 107 h2 v2, AI cy 75 h7 v7, AI cy 3 h8 v8] := by
  unfold f_X8_bestArms_b18 at hf
  obtain ⟨q1451, hq1451, hf⟩ := obind hf
  refine g_callV (gs' := [MO h0 h1 h2 h3 h4 h5 h6 h7 h8 q1451.2, AI cy 107 h2 v2, AI cy 75 h7 v7, AI cy 3 h8 v8]) (rest := []) X dX8_bestArms_18 (c_X8_refused l D cy ad h0 h1 h2 h3 h4 h5 h6 h7 h8 v0 (b2i y0) hq1451) mf_X8_refused mv_X8_refused lkm_X8_102 ⟨(Nat.le_of_ble_eq_true rfl), (Nat.le_of_ble_eq_true rfl), (Nat.le_of_ble_eq_true rfl), (Nat.le_of_ble_eq_true rfl)⟩ 0 0 rfl rfl rfl rfl [0, 1, 2, 3] _ (by decide : [0, 1, 2, 3].Perm (List.range 4)) rfl (by decide : [0, 1, 2, 3].Perm (List.range 4)) rfl (Nat.le_of_ble_eq_true rfl) rfl ?_
  refine g_if_eq X 26 dX8_bestArms_21 (by decide) (fun c1462 => ?_) (fun c1462 => ?_)
  · have hf := opos c1462 hf
    refine g_aload_n X dX8_bestArms_26 0 rfl rfl ?_
    refine g_aload_n X dX8_bestArms_27 0 rfl rfl ?_
    refine g_get X dX8_bestArms_28 ck_X8 0 0 3 rfl rfl (Nat.le_of_ble_eq_true rfl) lkf_X8_13 rfl ?_
    obtain ⟨q1452, hq1452, hf⟩ := obind hf
    refine g_callV (gs' := [MO h0 h1 h2 h3 h4 h5 h6 h7 h8 q1452.1, AI cy 107 h2 v2, AI cy 75 h7 q1452.2, AI cy 3 h8 v8]) (rest := []) X dX8_bestArms_31 (c_X8_gather l D cy ad h0 h1 h2 h3 h4 h5 h6 h7 h8 h2 q1451.2 v7 v2 hq1452) mf_X8_gather mv_X8_gather lkm_X8_193 ⟨(Nat.le_of_ble_eq_true rfl), (Nat.le_of_ble_eq_true rfl), (Nat.le_of_ble_eq_true rfl), (Nat.le_of_ble_eq_true rfl)⟩ 0 0 rfl rfl rfl rfl [0, 2, 1, 3] _ (by decide : [0, 2, 1, 3].Perm (List.range 4)) rfl (by decide : [0, 2, 1, 3].Perm (List.range 4)) rfl (Nat.le_of_ble_eq_true rfl) rfl ?_
    refine g_iconst X (-1 : Int32) dX8_bestArms_34 (by decide) ?_
    refine g_istore_n (lv' := [(0, .ref h0), (1, .int x1), (2, .int x2), (3, .int (-1 : Int32))]) X dX8_bestArms_35 [1, 2, 3, 0] rfl (Nat.le_of_ble_eq_true rfl) rfl ?_
    refine g_iconst X (0 : Int32) dX8_bestArms_36 (by decide) ?_
    refine g_istore (lv' := [(0, .ref h0), (1, .int x1), (2, .int x2), (3, .int (-1 : Int32)), (4, .int (0 : Int32))]) X dX8_bestArms_37 [1, 2, 3, 4, 0] (Nat.le_of_ble_eq_true rfl) rfl ?_
    refine g_iconst X (1 : Int32) dX8_bestArms_39 (by decide) ?_
    refine g_istore (lv' := [(0, .ref h0), (1, .int x1), (2, .int x2), (3, .int (-1 : Int32)), (4, .int (0 : Int32)), (5, .int (1 : Int32))]) X dX8_bestArms_40 [1, 2, 3, 4, 5, 0] (Nat.le_of_ble_eq_true rfl) rfl ?_
    obtain ⟨q1461, hq1461, hf⟩ := obind hf
    refine w_X8_bestArms_B42 X hr q1452.1 v2 q1452.2 x1 x2 hq1461 ?_
    refine g_iload_n X dX8_bestArms_134 0 rfl rfl ?_
    have hf := Option.some.inj hf
    subst hf
    exact g_iret X hr dX8_bestArms_135
  · have hf := oneg c1462 hf
    refine g_iconst X (0 : Int32) dX8_bestArms_24 (by decide) ?_
    have hf := Option.some.inj hf
    subst hf
    exact g_iret X hr dX8_bestArms_25
def f_X8_bestArms (v0 : MOv) (v2 : Fn) (v7 : Fn) (v8 : Fn) (p1 : Int32) (p2 : Int32) : Option (Int32 × MOv × Fn × Fn) :=
  (f_X8_isWeighing v2 p1 p2).bind (fun q1450 => if (b2i q1450) = 0 then f_X8_bestArms_b18 v0 v2 v7 v8 p1 p2 true else f_X8_bestArms_b18 v0 v2 v7 v8 p1 p2 false)
set_option maxRecDepth 100000 in
set_option maxHeartbeats 4000000 in
theorem c_X8_bestArms (l : Launch) (D : va_G) (cy : Nat → ClassId) (ad : (Nat → Nat) × (Nat → Nat)) (h0 : Nat) (h1 : Nat) (h2 : Nat) (h3 : Nat) (h4 : Nat) (h5 : Nat) (h6 : Nat) (h7 : Nat) (h8 : Nat) (v0 : MOv) (v2 : Fn) (v7 : Fn) (v8 : Fn) (p1 : Int32) (p2 : Int32) {q : Int32 × MOv × Fn × Fn} (hf : f_X8_bestArms v0 v2 v7 v8 p1 p2 = some q) : CM l yX8_bestArms cX8_bestArms 9 (some .int) rmX8_bestArms D cy ad [.ref h0, .int p1, .int p2] [MO h0 h1 h2 h3 h4 h5 h6 h7 h8 v0, AI cy 107 h2 v2, AI cy 75 h7 v7, AI cy 3 h8 v8] (some (.int q.1)) [MO h0 h1 h2 h3 h4 h5 h6 h7 h8 q.2.1, AI cy 107 h2 v2, AI cy 75 h7 q.2.2.1, AI cy 3 h8 q.2.2.2] := by
  refine cm_of (lv0 := [(0, .ref h0), (1, .int p1), (2, .int p2)]) (by decide) (Nat.le_of_ble_eq_true rfl) rfl ?_
  intro p e s m args below meth c A X hr hn
  have X : gK p s m args meth c A D cy ad cX8_bestArms 9 RX8 := X
  unfold f_X8_bestArms at hf
  refine g_aload_n X dX8_bestArms_0 0 rfl rfl ?_
  refine g_aload_n X dX8_bestArms_1 0 rfl rfl ?_
  refine g_get X dX8_bestArms_2 ck_X8 0 0 3 rfl rfl (Nat.le_of_ble_eq_true rfl) lkf_X8_13 rfl ?_
  refine g_iload_n X dX8_bestArms_5 1 rfl rfl ?_
  refine g_iload_n X dX8_bestArms_6 2 rfl rfl ?_
  obtain ⟨q1450, hq1450, hf⟩ := obind hf
  refine g_callS (gs' := [MO h0 h1 h2 h3 h4 h5 h6 h7 h8 v0, AI cy 107 h2 v2, AI cy 75 h7 v7, AI cy 3 h8 v8]) (rest := [.ref h0]) X dX8_bestArms_7 (c_X8_isWeighing l D cy ad h2 v2 p1 p2 hq1450) mf_X8_isWeighing ms_X8_isWeighing lkm_X8_90 ⟨(Nat.le_of_ble_eq_true rfl), (Nat.le_of_ble_eq_true rfl), (Nat.le_of_ble_eq_true rfl), (Nat.le_of_ble_eq_true rfl)⟩ [1, 0, 2, 3] _ (by decide : [1, 0, 2, 3].Perm (List.range 4)) rfl (by decide : [1, 0, 2, 3].Perm (List.range 4)) rfl (Nat.le_of_ble_eq_true rfl) rfl ?_
  refine g_if_eq X 17 dX8_bestArms_10 (by decide) (fun c1463 => ?_) (fun c1463 => ?_)
  · have hf := opos c1463 hf
    refine g_iconst X (1 : Int32) dX8_bestArms_17 (by decide) ?_
    exact j_X8_bestArms_b18 X hr v0 v2 v7 v8 p1 p2 true hf
  · have hf := oneg c1463 hf
    refine g_iconst X (0 : Int32) dX8_bestArms_13 (by decide) ?_
    refine g_goto X 18 dX8_bestArms_14 (by decide) ?_
    exact j_X8_bestArms_b18 X hr v0 v2 v7 v8 p1 p2 false hf
abbrev rmX8_weighs : Room := ({ frames := 4, cells := 0, slots := 0, locals := 93 } : Room)
def f_X8_weighs_b28 (v0 : MOv) (v3 : Fn) (x1 : Int32) (y0 : Int32) : Option (Bool × Fn) :=
  (f_X8_isCoin v3 x1).bind (fun q1473 => if (b2i q1473) = 0 then some (false, v3) else if y0 = (-1 : Int32) then some (false, v3) else (f_X8_canWeigh v3 ((1 : Int32) <<< (x1 &&& 31)) y0).bind (fun q1474 => if (b2i q1474) = 0 then some (false, v3) else (f_X8_weighOn v3 ((1 : Int32) <<< (x1 &&& 31)) y0).bind (fun q1475 => if q1475.1 < 0 then some (false, q1475.2) else some (true, q1475.2))))
set_option maxRecDepth 100000 in
set_option maxHeartbeats 4000000 in
theorem j_X8_weighs_b28 {p : Program} {l : Launch} {e : Env} {s : State} {m : MethodId} {args : Array Value} {below : List Frame} {meth : Method} {c : Code} {A : Nat → Prop} {D : va_G} {cy : Nat → ClassId} {ad : (Nat → Nat) × (Nat → Nat)} (X : gK p s m args meth c A D cy ad cX8_weighs 4 RX8) (hr : meth.sig.returnType = (some .boolean)) {h0 h1 h2 h3 h4 h5 h6 h7 h8 : Nat} (v0 : MOv) (v3 : Fn) (x1 : Int32) (y0 : Int32) {q : Bool × Fn} (hf : f_X8_weighs_b28 v0 v3 x1 y0 = some q) : GW p l e rmX8_weighs s m args below meth c A D 4 0 0 (MQ below (cmQ D cy A (some (.int (b2i q.1))) ([MO h0 h1 h2 h3 h4 h5 h6 h7 h8 v0, AI cy 107 h3 q.2] : List va_W).flatten) args s 0 0 A) 28 [(0, .ref h0), (1, .int x1)] [.int y0] [MO h0 h1 h2 h3 h4 h5 h6 h7 h8 v0, AI cy 107 h3 v3] := by
  unfold f_X8_weighs_b28 at hf
  refine g_istore_n (lv' := [(0, .ref h0), (1, .int x1), (3, .int y0)]) X dX8_weighs_28 [1, 2, 0] rfl (Nat.le_of_ble_eq_true rfl) rfl ?_
  refine g_aload_n X dX8_weighs_29 0 rfl rfl ?_
  refine g_get X dX8_weighs_30 ck_X8 0 0 4 rfl rfl (Nat.le_of_ble_eq_true rfl) lkf_X8_16 rfl ?_
  refine g_iload_n X dX8_weighs_33 1 rfl rfl ?_
  obtain ⟨q1473, hq1473, hf⟩ := obind hf
  refine g_callS (gs' := [MO h0 h1 h2 h3 h4 h5 h6 h7 h8 v0, AI cy 107 h3 v3]) (rest := []) X dX8_weighs_34 (c_X8_isCoin l D cy ad h3 v3 x1 hq1473) mf_X8_isCoin ms_X8_isCoin lkm_X8_163 ⟨(Nat.le_of_ble_eq_true rfl), (Nat.le_of_ble_eq_true rfl), (Nat.le_of_ble_eq_true rfl), (Nat.le_of_ble_eq_true rfl)⟩ [1, 0] _ (by decide : [1, 0].Perm (List.range 2)) rfl (by decide : [1, 0].Perm (List.range 2)) rfl (Nat.le_of_ble_eq_true rfl) rfl ?_
  refine g_if_eq X 77 dX8_weighs_37 (by decide) (fun c1479 => ?_) (fun c1479 => ?_)
  · have hf := opos c1479 hf
    refine g_iconst X (0 : Int32) dX8_weighs_77 (by decide) ?_
    have hf := Option.some.inj hf
    subst hf
    exact g_zret (b := false) X hr dX8_weighs_78
  · have hf := oneg c1479 hf
    refine g_iload_n X dX8_weighs_40 2 rfl rfl ?_
    refine g_iconst X (-1 : Int32) dX8_weighs_41 (by decide) ?_
    refine g_icmp_eq X 77 dX8_weighs_42 (by decide) (fun c1478 => ?_) (fun c1478 => ?_)
    · have hf := opos c1478 hf
      refine g_iconst X (0 : Int32) dX8_weighs_77 (by decide) ?_
      have hf := Option.some.inj hf
      subst hf
      exact g_zret (b := false) X hr dX8_weighs_78
    · have hf := oneg c1478 hf
      refine g_aload_n X dX8_weighs_45 0 rfl rfl ?_
      refine g_get X dX8_weighs_46 ck_X8 0 0 4 rfl rfl (Nat.le_of_ble_eq_true rfl) lkf_X8_16 rfl ?_
      refine g_iconst X (1 : Int32) dX8_weighs_49 (by decide) ?_
      refine g_iload_n X dX8_weighs_50 1 rfl rfl ?_
      refine g_ishl X dX8_weighs_51 ?_
      refine g_iload_n X dX8_weighs_52 2 rfl rfl ?_
      obtain ⟨q1474, hq1474, hf⟩ := obind hf
      refine g_callS (gs' := [MO h0 h1 h2 h3 h4 h5 h6 h7 h8 v0, AI cy 107 h3 v3]) (rest := []) X dX8_weighs_53 (c_X8_canWeigh l D cy ad h3 v3 ((1 : Int32) <<< (x1 &&& 31)) y0 hq1474) mf_X8_canWeigh ms_X8_canWeigh lkm_X8_123 ⟨(Nat.le_of_ble_eq_true rfl), (Nat.le_of_ble_eq_true rfl), (Nat.le_of_ble_eq_true rfl), (Nat.le_of_ble_eq_true rfl)⟩ [1, 0] _ (by decide : [1, 0].Perm (List.range 2)) rfl (by decide : [1, 0].Perm (List.range 2)) rfl (Nat.le_of_ble_eq_true rfl) rfl ?_
      refine g_if_eq X 77 dX8_weighs_56 (by decide) (fun c1477 => ?_) (fun c1477 => ?_)
      · have hf := opos c1477 hf
        refine g_iconst X (0 : Int32) dX8_weighs_77 (by decide) ?_
        have hf := Option.some.inj hf
        subst hf
        exact g_zret (b := false) X hr dX8_weighs_78
      · have hf := oneg c1477 hf
        refine g_aload_n X dX8_weighs_59 0 rfl rfl ?_
        refine g_get X dX8_weighs_60 ck_X8 0 0 4 rfl rfl (Nat.le_of_ble_eq_true rfl) lkf_X8_16 rfl ?_
        refine g_iconst X (1 : Int32) dX8_weighs_63 (by decide) ?_
        refine g_iload_n X dX8_weighs_64 1 rfl rfl ?_
        refine g_ishl X dX8_weighs_65 ?_
        refine g_iload_n X dX8_weighs_66 2 rfl rfl ?_
        obtain ⟨q1475, hq1475, hf⟩ := obind hf
        refine g_callS (gs' := [MO h0 h1 h2 h3 h4 h5 h6 h7 h8 v0, AI cy 107 h3 q1475.2]) (rest := []) X dX8_weighs_67 (c_X8_weighOn l D cy ad h3 v3 ((1 : Int32) <<< (x1 &&& 31)) y0 hq1475) mf_X8_weighOn ms_X8_weighOn lkm_X8_126 ⟨(Nat.le_of_ble_eq_true rfl), (Nat.le_of_ble_eq_true rfl), (Nat.le_of_ble_eq_true rfl), (Nat.le_of_ble_eq_true rfl)⟩ [1, 0] _ (by decide : [1, 0].Perm (List.range 2)) rfl (by decide : [1, 0].Perm (List.range 2)) rfl (Nat.le_of_ble_eq_true rfl) rfl ?_
        refine g_if_lt X 77 dX8_weighs_70 (by decide) (fun c1476 => ?_) (fun c1476 => ?_)
        · have hf := opos c1476 hf
          refine g_iconst X (0 : Int32) dX8_weighs_77 (by decide) ?_
          have hf := Option.some.inj hf
          subst hf
          exact g_zret (b := false) X hr dX8_weighs_78
        · have hf := oneg c1476 hf
          refine g_iconst X (1 : Int32) dX8_weighs_73 (by decide) ?_
          refine g_goto X 78 dX8_weighs_74 (by decide) ?_
          have hf := Option.some.inj hf
          subst hf
          exact g_zret (b := true) X hr dX8_weighs_78
def f_X8_weighs (v0 : MOv) (v3 : Fn) (p1 : Int32) (p2 : Int32) : Option (Bool × Fn) :=
  if p2 = (99 : Int32) then f_X8_weighs_b28 v0 v3 p1 (0 : Int32) else (f_X8_isCoin v3 p2).bind (fun q1472 => if (b2i q1472) = 0 then f_X8_weighs_b28 v0 v3 p1 (-1 : Int32) else f_X8_weighs_b28 v0 v3 p1 ((1 : Int32) <<< (p2 &&& 31)))
set_option maxRecDepth 100000 in
set_option maxHeartbeats 4000000 in
theorem c_X8_weighs (l : Launch) (D : va_G) (cy : Nat → ClassId) (ad : (Nat → Nat) × (Nat → Nat)) (h0 : Nat) (h1 : Nat) (h2 : Nat) (h3 : Nat) (h4 : Nat) (h5 : Nat) (h6 : Nat) (h7 : Nat) (h8 : Nat) (v0 : MOv) (v3 : Fn) (p1 : Int32) (p2 : Int32) {q : Bool × Fn} (hf : f_X8_weighs v0 v3 p1 p2 = some q) : CM l yX8_weighs cX8_weighs 4 (some .boolean) rmX8_weighs D cy ad [.ref h0, .int p1, .int p2] [MO h0 h1 h2 h3 h4 h5 h6 h7 h8 v0, AI cy 107 h3 v3] (some (.int (b2i q.1))) [MO h0 h1 h2 h3 h4 h5 h6 h7 h8 v0, AI cy 107 h3 q.2] := by
  refine cm_of (lv0 := [(0, .ref h0), (1, .int p1), (2, .int p2)]) (by decide) (Nat.le_of_ble_eq_true rfl) rfl ?_
  intro p e s m args below meth c A X hr hn
  have X : gK p s m args meth c A D cy ad cX8_weighs 4 RX8 := X
  unfold f_X8_weighs at hf
  refine g_iload_n X dX8_weighs_0 2 rfl rfl ?_
  refine g_bipush X (99 : Int32) dX8_weighs_1 (by decide) ?_
  refine g_icmp_ne X 10 dX8_weighs_3 (by decide) (fun c1481 => ?_) (fun c1481 => ?_)
  · have hf := oneg c1481 hf
    refine g_aload_n X dX8_weighs_10 0 rfl rfl ?_
    refine g_get X dX8_weighs_11 ck_X8 0 0 4 rfl rfl (Nat.le_of_ble_eq_true rfl) lkf_X8_16 rfl ?_
    refine g_iload_n X dX8_weighs_14 2 rfl rfl ?_
    obtain ⟨q1472, hq1472, hf⟩ := obind hf
    refine g_callS (gs' := [MO h0 h1 h2 h3 h4 h5 h6 h7 h8 v0, AI cy 107 h3 v3]) (rest := []) X dX8_weighs_15 (c_X8_isCoin l D cy ad h3 v3 p2 hq1472) mf_X8_isCoin ms_X8_isCoin lkm_X8_163 ⟨(Nat.le_of_ble_eq_true rfl), (Nat.le_of_ble_eq_true rfl), (Nat.le_of_ble_eq_true rfl), (Nat.le_of_ble_eq_true rfl)⟩ [1, 0] _ (by decide : [1, 0].Perm (List.range 2)) rfl (by decide : [1, 0].Perm (List.range 2)) rfl (Nat.le_of_ble_eq_true rfl) rfl ?_
    refine g_if_eq X 27 dX8_weighs_18 (by decide) (fun c1480 => ?_) (fun c1480 => ?_)
    · have hf := opos c1480 hf
      refine g_iconst X (-1 : Int32) dX8_weighs_27 (by decide) ?_
      refine g_sub [0, 1] (lv' := [(0, .ref h0), (1, .int p1)]) rfl ?_
      exact j_X8_weighs_b28 X hr v0 v3 p1 (-1 : Int32) hf
    · have hf := oneg c1480 hf
      refine g_iconst X (1 : Int32) dX8_weighs_21 (by decide) ?_
      refine g_iload_n X dX8_weighs_22 2 rfl rfl ?_
      refine g_ishl X dX8_weighs_23 ?_
      refine g_goto X 28 dX8_weighs_24 (by decide) ?_
      refine g_sub [0, 1] (lv' := [(0, .ref h0), (1, .int p1)]) rfl ?_
      exact j_X8_weighs_b28 X hr v0 v3 p1 ((1 : Int32) <<< (p2 &&& 31)) hf
  · have hf := opos c1481 hf
    refine g_iconst X (0 : Int32) dX8_weighs_6 (by decide) ?_
    refine g_goto X 28 dX8_weighs_7 (by decide) ?_
    refine g_sub [0, 1] (lv' := [(0, .ref h0), (1, .int p1)]) rfl ?_
    exact j_X8_weighs_b28 X hr v0 v3 p1 (0 : Int32) hf
abbrev rmX8_command : Room := ({ frames := 7, cells := 0, slots := 0, locals := 160 } : Room)
def f_X8_command_b186 (v0 : MOv) (v3 : Fn) (y0 : Bool) : Option (Bool × Fn) :=
  (f_X8_told v3 y0).bind (fun q1533 => if q1533.1 = (1 : Int32) then some (true, q1533.2) else some (false, q1533.2))
set_option maxRecDepth 100000 in
set_option maxHeartbeats 4000000 in
theorem j_X8_command_b186 {p : Program} {l : Launch} {e : Env} {s : State} {m : MethodId} {args : Array Value} {below : List Frame} {meth : Method} {c : Code} {A : Nat → Prop} {D : va_G} {cy : Nat → ClassId} {ad : (Nat → Nat) × (Nat → Nat)} (X : gK p s m args meth c A D cy ad cX8_command 6 RX8) (hr : meth.sig.returnType = (some .boolean)) {h0 h1 h2 h3 h4 h5 h6 h7 h8 : Nat} (v0 : MOv) (v3 : Fn) (y0 : Bool) {q : Bool × Fn} (hf : f_X8_command_b186 v0 v3 y0 = some q) : GW p l e rmX8_command s m args below meth c A D 6 0 0 (MQ below (cmQ D cy A (some (.int (b2i q.1))) ([MO h0 h1 h2 h3 h4 h5 h6 h7 h8 v0, AI cy 107 h3 q.2] : List va_W).flatten) args s 0 0 A) 186 [] [.int (b2i y0), .ref h3] [MO h0 h1 h2 h3 h4 h5 h6 h7 h8 v0, AI cy 107 h3 v3] := by
  unfold f_X8_command_b186 at hf
  obtain ⟨q1533, hq1533, hf⟩ := obind hf
  refine g_callS (gs' := [MO h0 h1 h2 h3 h4 h5 h6 h7 h8 v0, AI cy 107 h3 q1533.2]) (rest := []) X dX8_command_186 (c_X8_told l D cy ad h3 v3 y0 hq1533) mf_X8_told ms_X8_told lkm_X8_93 ⟨(Nat.le_of_ble_eq_true rfl), (Nat.le_of_ble_eq_true rfl), (Nat.le_of_ble_eq_true rfl), (Nat.le_of_ble_eq_true rfl)⟩ [1, 0] _ (by decide : [1, 0].Perm (List.range 2)) rfl (by decide : [1, 0].Perm (List.range 2)) rfl (Nat.le_of_ble_eq_true rfl) rfl ?_
  refine g_iconst X (1 : Int32) dX8_command_189 (by decide) ?_
  refine g_icmp_ne X 197 dX8_command_190 (by decide) (fun c1534 => ?_) (fun c1534 => ?_)
  · have hf := oneg c1534 hf
    refine g_iconst X (0 : Int32) dX8_command_197 (by decide) ?_
    have hf := Option.some.inj hf
    subst hf
    exact g_zret (b := false) X hr dX8_command_198
  · have hf := opos c1534 hf
    refine g_iconst X (1 : Int32) dX8_command_193 (by decide) ?_
    refine g_goto X 198 dX8_command_194 (by decide) ?_
    have hf := Option.some.inj hf
    subst hf
    exact g_zret (b := true) X hr dX8_command_198
def f_X8_command_b137 (v0 : MOv) (v3 : Fn) (y0 : Bool) (y1 : Int32) : Option (Bool × Fn) :=
  (f_X8_accuseOn v3 y1 y0).bind (fun q1539 => if q1539.1 = (1 : Int32) then some (true, q1539.2) else some (false, q1539.2))
set_option maxRecDepth 100000 in
set_option maxHeartbeats 4000000 in
theorem j_X8_command_b137 {p : Program} {l : Launch} {e : Env} {s : State} {m : MethodId} {args : Array Value} {below : List Frame} {meth : Method} {c : Code} {A : Nat → Prop} {D : va_G} {cy : Nat → ClassId} {ad : (Nat → Nat) × (Nat → Nat)} (X : gK p s m args meth c A D cy ad cX8_command 6 RX8) (hr : meth.sig.returnType = (some .boolean)) {h0 h1 h2 h3 h4 h5 h6 h7 h8 : Nat} (v0 : MOv) (v3 : Fn) (y0 : Bool) (y1 : Int32) {q : Bool × Fn} (hf : f_X8_command_b137 v0 v3 y0 y1 = some q) : GW p l e rmX8_command s m args below meth c A D 6 0 0 (MQ below (cmQ D cy A (some (.int (b2i q.1))) ([MO h0 h1 h2 h3 h4 h5 h6 h7 h8 v0, AI cy 107 h3 q.2] : List va_W).flatten) args s 0 0 A) 137 [] [.int (b2i y0), .int y1, .ref h3] [MO h0 h1 h2 h3 h4 h5 h6 h7 h8 v0, AI cy 107 h3 v3] := by
  unfold f_X8_command_b137 at hf
  obtain ⟨q1539, hq1539, hf⟩ := obind hf
  refine g_callS (gs' := [MO h0 h1 h2 h3 h4 h5 h6 h7 h8 v0, AI cy 107 h3 q1539.2]) (rest := []) X dX8_command_137 (c_X8_accuseOn l D cy ad h3 v3 y1 y0 hq1539) mf_X8_accuseOn ms_X8_accuseOn lkm_X8_184 ⟨(Nat.le_of_ble_eq_true rfl), (Nat.le_of_ble_eq_true rfl), (Nat.le_of_ble_eq_true rfl), (Nat.le_of_ble_eq_true rfl)⟩ [1, 0] _ (by decide : [1, 0].Perm (List.range 2)) rfl (by decide : [1, 0].Perm (List.range 2)) rfl (Nat.le_of_ble_eq_true rfl) rfl ?_
  refine g_iconst X (1 : Int32) dX8_command_140 (by decide) ?_
  refine g_icmp_ne X 148 dX8_command_141 (by decide) (fun c1540 => ?_) (fun c1540 => ?_)
  · have hf := oneg c1540 hf
    refine g_iconst X (0 : Int32) dX8_command_148 (by decide) ?_
    have hf := Option.some.inj hf
    subst hf
    exact g_zret (b := false) X hr dX8_command_149
  · have hf := opos c1540 hf
    refine g_iconst X (1 : Int32) dX8_command_144 (by decide) ?_
    refine g_goto X 149 dX8_command_145 (by decide) ?_
    have hf := Option.some.inj hf
    subst hf
    exact g_zret (b := true) X hr dX8_command_149
def f_X8_command (v0 : MOv) (v3 : Fn) (p1 : Int32) (p2 : Int32) : Option (Bool × Fn) :=
  if p1 = (1 : Int32) then (f_X8_weighs v0 v3 (p2 / (100 : Int32)) (p2 - p2 / (100 : Int32) * (100 : Int32))).bind (fun q1548 => some (q1548.1, q1548.2)) else if p1 = (2 : Int32) then (f_X8_isArms (p2 / (100 : Int32)) (p2 - p2 / (100 : Int32) * (100 : Int32))).bind (fun q1544 => if (b2i q1544) = 0 then some (false, v3) else (f_X8_armsOn v3 (p2 / (100 : Int32)) (p2 - p2 / (100 : Int32) * (100 : Int32))).bind (fun q1545 => if q1545.1 < 0 then some (false, q1545.2) else some (true, q1545.2))) else if p1 = (3 : Int32) then if (2 : Int32) ≤ (p2 - p2 / (100 : Int32) * (100 : Int32)) then some (false, v3) else (f_X8_isCoin v3 (p2 / (100 : Int32))).bind (fun q1538 => if (b2i q1538) = 0 then some (false, v3) else if (p2 - p2 / (100 : Int32) * (100 : Int32)) = (1 : Int32) then f_X8_command_b137 v0 v3 true (p2 / (100 : Int32)) else f_X8_command_b137 v0 v3 false (p2 / (100 : Int32))) else if p1 = (4 : Int32) then if (p2 - p2 / (1000 : Int32) * (1000 : Int32)) = 0 then if (3 : Int32) ≤ (p2 / (1000 : Int32)) then some (false, v3) else if ((v3 (1 : Int32).toNatClampNeg) - (v3 (1 : Int32).toNatClampNeg) / (3 : Int32) * (3 : Int32)) = (p2 / (1000 : Int32)) then f_X8_command_b186 v0 v3 true else f_X8_command_b186 v0 v3 false else some (false, v3) else if p1 = (5 : Int32) then if p2 = 0 then if (v3 (4 : Int32).toNatClampNeg) ≤ 0 then some (false, v3) else (f_X8_forgetOn v3).bind (fun q1529 => if q1529.1 < 0 then some (false, q1529.2) else some (true, q1529.2)) else some (false, v3) else if p1 = (6 : Int32) then if (100 : Int32) ≤ p2 then some (false, v3) else (f_X8_leftOf v3).bind (fun q1526 => if p2 < q1526 then some (false, v3) else some (true, v3)) else if p1 = (7 : Int32) then if (10 : Int32) ≤ (p2 - p2 / (100 : Int32) * (100 : Int32)) then some (false, v3) else (f_X8_isCoin v3 (p2 / (100 : Int32))).bind (fun q1521 => if (b2i q1521) = 0 then some (false, v3) else (f_X8_coinOf v3 (p2 / (100 : Int32))).bind (fun q1522 => if q1522 = (p2 - p2 / (100 : Int32) * (100 : Int32)) then some (true, v3) else some (false, v3))) else if p1 = (8 : Int32) then if (10 : Int32) ≤ p2 then some (false, v3) else (f_X8_pansOf v3).bind (fun q1518 => if q1518 = p2 then some (true, v3) else some (false, v3)) else if p1 = (9 : Int32) then if (10 : Int32) ≤ p2 then some (false, v3) else (f_X8_needsOf v3).bind (fun q1515 => if p2 < q1515 then some (false, v3) else some (true, v3)) else some (false, v3)
set_option maxRecDepth 100000 in
set_option maxHeartbeats 4000000 in
theorem c_X8_command (l : Launch) (D : va_G) (cy : Nat → ClassId) (ad : (Nat → Nat) × (Nat → Nat)) (h0 : Nat) (h1 : Nat) (h2 : Nat) (h3 : Nat) (h4 : Nat) (h5 : Nat) (h6 : Nat) (h7 : Nat) (h8 : Nat) (v0 : MOv) (v3 : Fn) (p1 : Int32) (p2 : Int32) {q : Bool × Fn} (hf : f_X8_command v0 v3 p1 p2 = some q) : CM l yX8_command cX8_command 6 (some .boolean) rmX8_command D cy ad [.ref h0, .int p1, .int p2] [MO h0 h1 h2 h3 h4 h5 h6 h7 h8 v0, AI cy 107 h3 v3] (some (.int (b2i q.1))) [MO h0 h1 h2 h3 h4 h5 h6 h7 h8 v0, AI cy 107 h3 q.2] := by
  refine cm_of (lv0 := [(0, .ref h0), (1, .int p1), (2, .int p2)]) (by decide) (Nat.le_of_ble_eq_true rfl) rfl ?_
  intro p e s m args below meth c A X hr hn
  have X : gK p s m args meth c A D cy ad cX8_command 6 RX8 := X
  unfold f_X8_command at hf
  refine g_iload_n X dX8_command_0 2 rfl rfl ?_
  refine g_bipush X (100 : Int32) dX8_command_1 (by decide) ?_
  refine g_idiv X dX8_command_3 (by decide) ?_
  refine g_istore_n (lv' := [(0, .ref h0), (1, .int p1), (2, .int p2), (3, .int (p2 / (100 : Int32)))]) X dX8_command_4 [1, 2, 3, 0] rfl (Nat.le_of_ble_eq_true rfl) rfl ?_
  refine g_iload_n X dX8_command_5 2 rfl rfl ?_
  refine g_bipush X (100 : Int32) dX8_command_6 (by decide) ?_
  refine g_irem X dX8_command_8 (by decide) ?_
  refine g_istore (lv' := [(0, .ref h0), (1, .int p1), (2, .int p2), (3, .int (p2 / (100 : Int32))), (4, .int (p2 - p2 / (100 : Int32) * (100 : Int32)))]) X dX8_command_9 [1, 2, 3, 4, 0] (Nat.le_of_ble_eq_true rfl) rfl ?_
  refine g_iload_n X dX8_command_11 2 rfl rfl ?_
  refine g_sipush X (1000 : Int32) dX8_command_12 (by decide) ?_
  refine g_idiv X dX8_command_15 (by decide) ?_
  refine g_istore (lv' := [(0, .ref h0), (1, .int p1), (2, .int p2), (3, .int (p2 / (100 : Int32))), (4, .int (p2 - p2 / (100 : Int32) * (100 : Int32))), (5, .int (p2 / (1000 : Int32)))]) X dX8_command_16 [1, 2, 3, 4, 5, 0] (Nat.le_of_ble_eq_true rfl) rfl ?_
  refine g_iload_n X dX8_command_18 1 rfl rfl ?_
  by_cases c1506 : p1 = (1 : Int32)
  · have hf := opos c1506 hf
    refine g_tableIn (off := 49) X 68 dX8_command_19 (by rw [c1506]; decide) (by rw [c1506]; decide) (by rw [c1506]; decide) (by decide) ?_
    refine g_aload_n X dX8_command_68 0 rfl rfl ?_
    refine g_iload_n X dX8_command_69 3 rfl rfl ?_
    refine g_iload X dX8_command_70 4 rfl ?_
    obtain ⟨q1548, hq1548, hf⟩ := obind hf
    refine g_callV (gs' := [MO h0 h1 h2 h3 h4 h5 h6 h7 h8 v0, AI cy 107 h3 q1548.2]) (rest := []) X dX8_command_72 (c_X8_weighs l D cy ad h0 h1 h2 h3 h4 h5 h6 h7 h8 v0 v3 (p2 / (100 : Int32)) (p2 - p2 / (100 : Int32) * (100 : Int32)) hq1548) mf_X8_weighs mv_X8_weighs lkm_X8_202 ⟨(Nat.le_of_ble_eq_true rfl), (Nat.le_of_ble_eq_true rfl), (Nat.le_of_ble_eq_true rfl), (Nat.le_of_ble_eq_true rfl)⟩ 0 0 rfl rfl rfl rfl [0, 1] _ (by decide : [0, 1].Perm (List.range 2)) rfl (by decide : [0, 1].Perm (List.range 2)) rfl (Nat.le_of_ble_eq_true rfl) rfl ?_
    have hf := Option.some.inj hf
    subst hf
    exact g_zret (b := q1548.1) X hr dX8_command_75
  · have hf := oneg c1506 hf
    by_cases c1507 : p1 = (2 : Int32)
    · have hf := opos c1507 hf
      refine g_tableIn (off := 57) X 76 dX8_command_19 (by rw [c1507]; decide) (by rw [c1507]; decide) (by rw [c1507]; decide) (by decide) ?_
      refine g_iload_n X dX8_command_76 3 rfl rfl ?_
      refine g_iload X dX8_command_77 4 rfl ?_
      obtain ⟨q1544, hq1544, hf⟩ := obind hf
      refine g_callS (gs' := [MO h0 h1 h2 h3 h4 h5 h6 h7 h8 v0, AI cy 107 h3 v3]) (rest := []) X dX8_command_79 (c_X8_isArms l D cy ad (p2 / (100 : Int32)) (p2 - p2 / (100 : Int32) * (100 : Int32)) hq1544) mf_X8_isArms ms_X8_isArms lkm_X8_180 ⟨(Nat.le_of_ble_eq_true rfl), (Nat.le_of_ble_eq_true rfl), (Nat.le_of_ble_eq_true rfl), (Nat.le_of_ble_eq_true rfl)⟩ [0, 1] _ (by decide : [0, 1].Perm (List.range 2)) rfl (by decide : [0, 1].Perm (List.range 2)) rfl (Nat.le_of_ble_eq_true rfl) rfl ?_
      refine g_if_eq X 102 dX8_command_82 (by decide) (fun c1547 => ?_) (fun c1547 => ?_)
      · have hf := opos c1547 hf
        refine g_iconst X (0 : Int32) dX8_command_102 (by decide) ?_
        have hf := Option.some.inj hf
        subst hf
        exact g_zret (b := false) X hr dX8_command_103
      · have hf := oneg c1547 hf
        refine g_aload_n X dX8_command_85 0 rfl rfl ?_
        refine g_get X dX8_command_86 ck_X8 0 0 4 rfl rfl (Nat.le_of_ble_eq_true rfl) lkf_X8_16 rfl ?_
        refine g_iload_n X dX8_command_89 3 rfl rfl ?_
        refine g_iload X dX8_command_90 4 rfl ?_
        obtain ⟨q1545, hq1545, hf⟩ := obind hf
        refine g_callS (gs' := [MO h0 h1 h2 h3 h4 h5 h6 h7 h8 v0, AI cy 107 h3 q1545.2]) (rest := []) X dX8_command_92 (c_X8_armsOn l D cy ad h3 v3 (p2 / (100 : Int32)) (p2 - p2 / (100 : Int32) * (100 : Int32)) hq1545) mf_X8_armsOn ms_X8_armsOn lkm_X8_138 ⟨(Nat.le_of_ble_eq_true rfl), (Nat.le_of_ble_eq_true rfl), (Nat.le_of_ble_eq_true rfl), (Nat.le_of_ble_eq_true rfl)⟩ [1, 0] _ (by decide : [1, 0].Perm (List.range 2)) rfl (by decide : [1, 0].Perm (List.range 2)) rfl (Nat.le_of_ble_eq_true rfl) rfl ?_
        refine g_if_lt X 102 dX8_command_95 (by decide) (fun c1546 => ?_) (fun c1546 => ?_)
        · have hf := opos c1546 hf
          refine g_iconst X (0 : Int32) dX8_command_102 (by decide) ?_
          have hf := Option.some.inj hf
          subst hf
          exact g_zret (b := false) X hr dX8_command_103
        · have hf := oneg c1546 hf
          refine g_iconst X (1 : Int32) dX8_command_98 (by decide) ?_
          refine g_goto X 103 dX8_command_99 (by decide) ?_
          have hf := Option.some.inj hf
          subst hf
          exact g_zret (b := true) X hr dX8_command_103
    · have hf := oneg c1507 hf
      by_cases c1508 : p1 = (3 : Int32)
      · have hf := opos c1508 hf
        refine g_tableIn (off := 85) X 104 dX8_command_19 (by rw [c1508]; decide) (by rw [c1508]; decide) (by rw [c1508]; decide) (by decide) ?_
        refine g_iload X dX8_command_104 4 rfl ?_
        refine g_iconst X (2 : Int32) dX8_command_106 (by decide) ?_
        refine g_icmp_ge X 148 dX8_command_107 (by decide) (fun c1543 => ?_) (fun c1543 => ?_)
        · have hf := opos c1543 hf
          refine g_iconst X (0 : Int32) dX8_command_148 (by decide) ?_
          have hf := Option.some.inj hf
          subst hf
          exact g_zret (b := false) X hr dX8_command_149
        · have hf := oneg c1543 hf
          refine g_aload_n X dX8_command_110 0 rfl rfl ?_
          refine g_get X dX8_command_111 ck_X8 0 0 4 rfl rfl (Nat.le_of_ble_eq_true rfl) lkf_X8_16 rfl ?_
          refine g_iload_n X dX8_command_114 3 rfl rfl ?_
          obtain ⟨q1538, hq1538, hf⟩ := obind hf
          refine g_callS (gs' := [MO h0 h1 h2 h3 h4 h5 h6 h7 h8 v0, AI cy 107 h3 v3]) (rest := []) X dX8_command_115 (c_X8_isCoin l D cy ad h3 v3 (p2 / (100 : Int32)) hq1538) mf_X8_isCoin ms_X8_isCoin lkm_X8_163 ⟨(Nat.le_of_ble_eq_true rfl), (Nat.le_of_ble_eq_true rfl), (Nat.le_of_ble_eq_true rfl), (Nat.le_of_ble_eq_true rfl)⟩ [1, 0] _ (by decide : [1, 0].Perm (List.range 2)) rfl (by decide : [1, 0].Perm (List.range 2)) rfl (Nat.le_of_ble_eq_true rfl) rfl ?_
          refine g_if_eq X 148 dX8_command_118 (by decide) (fun c1542 => ?_) (fun c1542 => ?_)
          · have hf := opos c1542 hf
            refine g_iconst X (0 : Int32) dX8_command_148 (by decide) ?_
            have hf := Option.some.inj hf
            subst hf
            exact g_zret (b := false) X hr dX8_command_149
          · have hf := oneg c1542 hf
            refine g_aload_n X dX8_command_121 0 rfl rfl ?_
            refine g_get X dX8_command_122 ck_X8 0 0 4 rfl rfl (Nat.le_of_ble_eq_true rfl) lkf_X8_16 rfl ?_
            refine g_iload_n X dX8_command_125 3 rfl rfl ?_
            refine g_iload X dX8_command_126 4 rfl ?_
            refine g_iconst X (1 : Int32) dX8_command_128 (by decide) ?_
            refine g_icmp_ne X 136 dX8_command_129 (by decide) (fun c1541 => ?_) (fun c1541 => ?_)
            · have hf := oneg c1541 hf
              refine g_iconst X (0 : Int32) dX8_command_136 (by decide) ?_
              refine g_sub [] (lv' := []) rfl ?_
              exact j_X8_command_b137 X hr v0 v3 false (p2 / (100 : Int32)) hf
            · have hf := opos c1541 hf
              refine g_iconst X (1 : Int32) dX8_command_132 (by decide) ?_
              refine g_goto X 137 dX8_command_133 (by decide) ?_
              refine g_sub [] (lv' := []) rfl ?_
              exact j_X8_command_b137 X hr v0 v3 true (p2 / (100 : Int32)) hf
      · have hf := oneg c1508 hf
        by_cases c1509 : p1 = (4 : Int32)
        · have hf := opos c1509 hf
          refine g_tableIn (off := 131) X 150 dX8_command_19 (by rw [c1509]; decide) (by rw [c1509]; decide) (by rw [c1509]; decide) (by decide) ?_
          refine g_iload_n X dX8_command_150 2 rfl rfl ?_
          refine g_sipush X (1000 : Int32) dX8_command_151 (by decide) ?_
          refine g_irem X dX8_command_154 (by decide) ?_
          refine g_if_ne X 197 dX8_command_155 (by decide) (fun c1537 => ?_) (fun c1537 => ?_)
          · have hf := oneg c1537 hf
            refine g_iconst X (0 : Int32) dX8_command_197 (by decide) ?_
            have hf := Option.some.inj hf
            subst hf
            exact g_zret (b := false) X hr dX8_command_198
          · have hf := opos c1537 hf
            refine g_iload X dX8_command_158 5 rfl ?_
            refine g_iconst X (3 : Int32) dX8_command_160 (by decide) ?_
            refine g_icmp_ge X 197 dX8_command_161 (by decide) (fun c1536 => ?_) (fun c1536 => ?_)
            · have hf := opos c1536 hf
              refine g_iconst X (0 : Int32) dX8_command_197 (by decide) ?_
              have hf := Option.some.inj hf
              subst hf
              exact g_zret (b := false) X hr dX8_command_198
            · have hf := oneg c1536 hf
              refine g_aload_n X dX8_command_164 0 rfl rfl ?_
              refine g_get X dX8_command_165 ck_X8 0 0 4 rfl rfl (Nat.le_of_ble_eq_true rfl) lkf_X8_16 rfl ?_
              refine g_aload_n X dX8_command_168 0 rfl rfl ?_
              refine g_get X dX8_command_169 ck_X8 0 0 4 rfl rfl (Nat.le_of_ble_eq_true rfl) lkf_X8_16 rfl ?_
              refine g_iconst X (1 : Int32) dX8_command_172 (by decide) ?_
              refine g_iaload X dX8_command_173 1 0 rfl rfl (by decide) ?_
              refine g_iconst X (3 : Int32) dX8_command_174 (by decide) ?_
              refine g_irem X dX8_command_175 (by decide) ?_
              refine g_iload X dX8_command_176 5 rfl ?_
              refine g_icmp_ne X 185 dX8_command_178 (by decide) (fun c1535 => ?_) (fun c1535 => ?_)
              · have hf := oneg c1535 hf
                refine g_iconst X (0 : Int32) dX8_command_185 (by decide) ?_
                refine g_sub [] (lv' := []) rfl ?_
                exact j_X8_command_b186 X hr v0 v3 false hf
              · have hf := opos c1535 hf
                refine g_iconst X (1 : Int32) dX8_command_181 (by decide) ?_
                refine g_goto X 186 dX8_command_182 (by decide) ?_
                refine g_sub [] (lv' := []) rfl ?_
                exact j_X8_command_b186 X hr v0 v3 true hf
        · have hf := oneg c1509 hf
          by_cases c1510 : p1 = (5 : Int32)
          · have hf := opos c1510 hf
            refine g_tableIn (off := 180) X 199 dX8_command_19 (by rw [c1510]; decide) (by rw [c1510]; decide) (by rw [c1510]; decide) (by decide) ?_
            refine g_iload_n X dX8_command_199 2 rfl rfl ?_
            refine g_if_ne X 226 dX8_command_200 (by decide) (fun c1532 => ?_) (fun c1532 => ?_)
            · have hf := oneg c1532 hf
              refine g_iconst X (0 : Int32) dX8_command_226 (by decide) ?_
              have hf := Option.some.inj hf
              subst hf
              exact g_zret (b := false) X hr dX8_command_227
            · have hf := opos c1532 hf
              refine g_aload_n X dX8_command_203 0 rfl rfl ?_
              refine g_get X dX8_command_204 ck_X8 0 0 4 rfl rfl (Nat.le_of_ble_eq_true rfl) lkf_X8_16 rfl ?_
              refine g_iconst X (4 : Int32) dX8_command_207 (by decide) ?_
              refine g_iaload X dX8_command_208 1 0 rfl rfl (by decide) ?_
              refine g_if_le X 226 dX8_command_209 (by decide) (fun c1531 => ?_) (fun c1531 => ?_)
              · have hf := opos c1531 hf
                refine g_iconst X (0 : Int32) dX8_command_226 (by decide) ?_
                have hf := Option.some.inj hf
                subst hf
                exact g_zret (b := false) X hr dX8_command_227
              · have hf := oneg c1531 hf
                refine g_aload_n X dX8_command_212 0 rfl rfl ?_
                refine g_get X dX8_command_213 ck_X8 0 0 4 rfl rfl (Nat.le_of_ble_eq_true rfl) lkf_X8_16 rfl ?_
                obtain ⟨q1529, hq1529, hf⟩ := obind hf
                refine g_callS (gs' := [MO h0 h1 h2 h3 h4 h5 h6 h7 h8 v0, AI cy 107 h3 q1529.2]) (rest := []) X dX8_command_216 (c_X8_forgetOn l D cy ad h3 v3 hq1529) mf_X8_forgetOn ms_X8_forgetOn lkm_X8_190 ⟨(Nat.le_of_ble_eq_true rfl), (Nat.le_of_ble_eq_true rfl), (Nat.le_of_ble_eq_true rfl), (Nat.le_of_ble_eq_true rfl)⟩ [1, 0] _ (by decide : [1, 0].Perm (List.range 2)) rfl (by decide : [1, 0].Perm (List.range 2)) rfl (Nat.le_of_ble_eq_true rfl) rfl ?_
                refine g_if_lt X 226 dX8_command_219 (by decide) (fun c1530 => ?_) (fun c1530 => ?_)
                · have hf := opos c1530 hf
                  refine g_iconst X (0 : Int32) dX8_command_226 (by decide) ?_
                  have hf := Option.some.inj hf
                  subst hf
                  exact g_zret (b := false) X hr dX8_command_227
                · have hf := oneg c1530 hf
                  refine g_iconst X (1 : Int32) dX8_command_222 (by decide) ?_
                  refine g_goto X 227 dX8_command_223 (by decide) ?_
                  have hf := Option.some.inj hf
                  subst hf
                  exact g_zret (b := true) X hr dX8_command_227
          · have hf := oneg c1510 hf
            by_cases c1511 : p1 = (6 : Int32)
            · have hf := opos c1511 hf
              refine g_tableIn (off := 209) X 228 dX8_command_19 (by rw [c1511]; decide) (by rw [c1511]; decide) (by rw [c1511]; decide) (by decide) ?_
              refine g_iload_n X dX8_command_228 2 rfl rfl ?_
              refine g_bipush X (100 : Int32) dX8_command_229 (by decide) ?_
              refine g_icmp_ge X 249 dX8_command_231 (by decide) (fun c1528 => ?_) (fun c1528 => ?_)
              · have hf := opos c1528 hf
                refine g_iconst X (0 : Int32) dX8_command_249 (by decide) ?_
                have hf := Option.some.inj hf
                subst hf
                exact g_zret (b := false) X hr dX8_command_250
              · have hf := oneg c1528 hf
                refine g_aload_n X dX8_command_234 0 rfl rfl ?_
                refine g_get X dX8_command_235 ck_X8 0 0 4 rfl rfl (Nat.le_of_ble_eq_true rfl) lkf_X8_16 rfl ?_
                obtain ⟨q1526, hq1526, hf⟩ := obind hf
                refine g_callS (gs' := [MO h0 h1 h2 h3 h4 h5 h6 h7 h8 v0, AI cy 107 h3 v3]) (rest := []) X dX8_command_238 (c_X8_leftOf l D cy ad h3 v3 hq1526) mf_X8_leftOf ms_X8_leftOf lkm_X8_86 ⟨(Nat.le_of_ble_eq_true rfl), (Nat.le_of_ble_eq_true rfl), (Nat.le_of_ble_eq_true rfl), (Nat.le_of_ble_eq_true rfl)⟩ [1, 0] _ (by decide : [1, 0].Perm (List.range 2)) rfl (by decide : [1, 0].Perm (List.range 2)) rfl (Nat.le_of_ble_eq_true rfl) rfl ?_
                refine g_iload_n X dX8_command_241 2 rfl rfl ?_
                refine g_icmp_gt X 249 dX8_command_242 (by decide) (fun c1527 => ?_) (fun c1527 => ?_)
                · have hf := opos c1527 hf
                  refine g_iconst X (0 : Int32) dX8_command_249 (by decide) ?_
                  have hf := Option.some.inj hf
                  subst hf
                  exact g_zret (b := false) X hr dX8_command_250
                · have hf := oneg c1527 hf
                  refine g_iconst X (1 : Int32) dX8_command_245 (by decide) ?_
                  refine g_goto X 250 dX8_command_246 (by decide) ?_
                  have hf := Option.some.inj hf
                  subst hf
                  exact g_zret (b := true) X hr dX8_command_250
            · have hf := oneg c1511 hf
              by_cases c1512 : p1 = (7 : Int32)
              · have hf := opos c1512 hf
                refine g_tableIn (off := 232) X 251 dX8_command_19 (by rw [c1512]; decide) (by rw [c1512]; decide) (by rw [c1512]; decide) (by decide) ?_
                refine g_iload X dX8_command_251 4 rfl ?_
                refine g_bipush X (10 : Int32) dX8_command_253 (by decide) ?_
                refine g_icmp_ge X 286 dX8_command_255 (by decide) (fun c1525 => ?_) (fun c1525 => ?_)
                · have hf := opos c1525 hf
                  refine g_iconst X (0 : Int32) dX8_command_286 (by decide) ?_
                  have hf := Option.some.inj hf
                  subst hf
                  exact g_zret (b := false) X hr dX8_command_287
                · have hf := oneg c1525 hf
                  refine g_aload_n X dX8_command_258 0 rfl rfl ?_
                  refine g_get X dX8_command_259 ck_X8 0 0 4 rfl rfl (Nat.le_of_ble_eq_true rfl) lkf_X8_16 rfl ?_
                  refine g_iload_n X dX8_command_262 3 rfl rfl ?_
                  obtain ⟨q1521, hq1521, hf⟩ := obind hf
                  refine g_callS (gs' := [MO h0 h1 h2 h3 h4 h5 h6 h7 h8 v0, AI cy 107 h3 v3]) (rest := []) X dX8_command_263 (c_X8_isCoin l D cy ad h3 v3 (p2 / (100 : Int32)) hq1521) mf_X8_isCoin ms_X8_isCoin lkm_X8_163 ⟨(Nat.le_of_ble_eq_true rfl), (Nat.le_of_ble_eq_true rfl), (Nat.le_of_ble_eq_true rfl), (Nat.le_of_ble_eq_true rfl)⟩ [1, 0] _ (by decide : [1, 0].Perm (List.range 2)) rfl (by decide : [1, 0].Perm (List.range 2)) rfl (Nat.le_of_ble_eq_true rfl) rfl ?_
                  refine g_if_eq X 286 dX8_command_266 (by decide) (fun c1524 => ?_) (fun c1524 => ?_)
                  · have hf := opos c1524 hf
                    refine g_iconst X (0 : Int32) dX8_command_286 (by decide) ?_
                    have hf := Option.some.inj hf
                    subst hf
                    exact g_zret (b := false) X hr dX8_command_287
                  · have hf := oneg c1524 hf
                    refine g_aload_n X dX8_command_269 0 rfl rfl ?_
                    refine g_get X dX8_command_270 ck_X8 0 0 4 rfl rfl (Nat.le_of_ble_eq_true rfl) lkf_X8_16 rfl ?_
                    refine g_iload_n X dX8_command_273 3 rfl rfl ?_
                    obtain ⟨q1522, hq1522, hf⟩ := obind hf
                    refine g_callS (gs' := [MO h0 h1 h2 h3 h4 h5 h6 h7 h8 v0, AI cy 107 h3 v3]) (rest := []) X dX8_command_274 (c_X8_coinOf l D cy ad h3 v3 (p2 / (100 : Int32)) hq1522) mf_X8_coinOf ms_X8_coinOf lkm_X8_166 ⟨(Nat.le_of_ble_eq_true rfl), (Nat.le_of_ble_eq_true rfl), (Nat.le_of_ble_eq_true rfl), (Nat.le_of_ble_eq_true rfl)⟩ [1, 0] _ (by decide : [1, 0].Perm (List.range 2)) rfl (by decide : [1, 0].Perm (List.range 2)) rfl (Nat.le_of_ble_eq_true rfl) rfl ?_
                    refine g_iload X dX8_command_277 4 rfl ?_
                    refine g_icmp_ne X 286 dX8_command_279 (by decide) (fun c1523 => ?_) (fun c1523 => ?_)
                    · have hf := oneg c1523 hf
                      refine g_iconst X (0 : Int32) dX8_command_286 (by decide) ?_
                      have hf := Option.some.inj hf
                      subst hf
                      exact g_zret (b := false) X hr dX8_command_287
                    · have hf := opos c1523 hf
                      refine g_iconst X (1 : Int32) dX8_command_282 (by decide) ?_
                      refine g_goto X 287 dX8_command_283 (by decide) ?_
                      have hf := Option.some.inj hf
                      subst hf
                      exact g_zret (b := true) X hr dX8_command_287
              · have hf := oneg c1512 hf
                by_cases c1513 : p1 = (8 : Int32)
                · have hf := opos c1513 hf
                  refine g_tableIn (off := 269) X 288 dX8_command_19 (by rw [c1513]; decide) (by rw [c1513]; decide) (by rw [c1513]; decide) (by decide) ?_
                  refine g_iload_n X dX8_command_288 2 rfl rfl ?_
                  refine g_bipush X (10 : Int32) dX8_command_289 (by decide) ?_
                  refine g_icmp_ge X 309 dX8_command_291 (by decide) (fun c1520 => ?_) (fun c1520 => ?_)
                  · have hf := opos c1520 hf
                    refine g_iconst X (0 : Int32) dX8_command_309 (by decide) ?_
                    have hf := Option.some.inj hf
                    subst hf
                    exact g_zret (b := false) X hr dX8_command_310
                  · have hf := oneg c1520 hf
                    refine g_aload_n X dX8_command_294 0 rfl rfl ?_
                    refine g_get X dX8_command_295 ck_X8 0 0 4 rfl rfl (Nat.le_of_ble_eq_true rfl) lkf_X8_16 rfl ?_
                    obtain ⟨q1518, hq1518, hf⟩ := obind hf
                    refine g_callS (gs' := [MO h0 h1 h2 h3 h4 h5 h6 h7 h8 v0, AI cy 107 h3 v3]) (rest := []) X dX8_command_298 (c_X8_pansOf l D cy ad h3 v3 hq1518) mf_X8_pansOf ms_X8_pansOf lkm_X8_169 ⟨(Nat.le_of_ble_eq_true rfl), (Nat.le_of_ble_eq_true rfl), (Nat.le_of_ble_eq_true rfl), (Nat.le_of_ble_eq_true rfl)⟩ [1, 0] _ (by decide : [1, 0].Perm (List.range 2)) rfl (by decide : [1, 0].Perm (List.range 2)) rfl (Nat.le_of_ble_eq_true rfl) rfl ?_
                    refine g_iload_n X dX8_command_301 2 rfl rfl ?_
                    refine g_icmp_ne X 309 dX8_command_302 (by decide) (fun c1519 => ?_) (fun c1519 => ?_)
                    · have hf := oneg c1519 hf
                      refine g_iconst X (0 : Int32) dX8_command_309 (by decide) ?_
                      have hf := Option.some.inj hf
                      subst hf
                      exact g_zret (b := false) X hr dX8_command_310
                    · have hf := opos c1519 hf
                      refine g_iconst X (1 : Int32) dX8_command_305 (by decide) ?_
                      refine g_goto X 310 dX8_command_306 (by decide) ?_
                      have hf := Option.some.inj hf
                      subst hf
                      exact g_zret (b := true) X hr dX8_command_310
                · have hf := oneg c1513 hf
                  by_cases c1514 : p1 = (9 : Int32)
                  · have hf := opos c1514 hf
                    refine g_tableIn (off := 292) X 311 dX8_command_19 (by rw [c1514]; decide) (by rw [c1514]; decide) (by rw [c1514]; decide) (by decide) ?_
                    refine g_iload_n X dX8_command_311 2 rfl rfl ?_
                    refine g_bipush X (10 : Int32) dX8_command_312 (by decide) ?_
                    refine g_icmp_ge X 332 dX8_command_314 (by decide) (fun c1517 => ?_) (fun c1517 => ?_)
                    · have hf := opos c1517 hf
                      refine g_iconst X (0 : Int32) dX8_command_332 (by decide) ?_
                      have hf := Option.some.inj hf
                      subst hf
                      exact g_zret (b := false) X hr dX8_command_333
                    · have hf := oneg c1517 hf
                      refine g_aload_n X dX8_command_317 0 rfl rfl ?_
                      refine g_get X dX8_command_318 ck_X8 0 0 4 rfl rfl (Nat.le_of_ble_eq_true rfl) lkf_X8_16 rfl ?_
                      obtain ⟨q1515, hq1515, hf⟩ := obind hf
                      refine g_callS (gs' := [MO h0 h1 h2 h3 h4 h5 h6 h7 h8 v0, AI cy 107 h3 v3]) (rest := []) X dX8_command_321 (c_X8_needsOf l D cy ad h3 v3 hq1515) mf_X8_needsOf ms_X8_needsOf lkm_X8_199 ⟨(Nat.le_of_ble_eq_true rfl), (Nat.le_of_ble_eq_true rfl), (Nat.le_of_ble_eq_true rfl), (Nat.le_of_ble_eq_true rfl)⟩ [1, 0] _ (by decide : [1, 0].Perm (List.range 2)) rfl (by decide : [1, 0].Perm (List.range 2)) rfl (Nat.le_of_ble_eq_true rfl) rfl ?_
                      refine g_iload_n X dX8_command_324 2 rfl rfl ?_
                      refine g_icmp_gt X 332 dX8_command_325 (by decide) (fun c1516 => ?_) (fun c1516 => ?_)
                      · have hf := opos c1516 hf
                        refine g_iconst X (0 : Int32) dX8_command_332 (by decide) ?_
                        have hf := Option.some.inj hf
                        subst hf
                        exact g_zret (b := false) X hr dX8_command_333
                      · have hf := oneg c1516 hf
                        refine g_iconst X (1 : Int32) dX8_command_328 (by decide) ?_
                        refine g_goto X 333 dX8_command_329 (by decide) ?_
                        have hf := Option.some.inj hf
                        subst hf
                        exact g_zret (b := true) X hr dX8_command_333
                  · have hf := oneg c1514 hf
                    refine g_tableOut X 334 dX8_command_19 (sw_out (fun k9 h91 h92 h93 => ?_)) (by decide) ?_
                    · have := sw_ne (by decide : ((1 : Int32)).toInt = 1) c1506
                      have := sw_ne (by decide : ((2 : Int32)).toInt = 2) c1507
                      have := sw_ne (by decide : ((3 : Int32)).toInt = 3) c1508
                      have := sw_ne (by decide : ((4 : Int32)).toInt = 4) c1509
                      have := sw_ne (by decide : ((5 : Int32)).toInt = 5) c1510
                      have := sw_ne (by decide : ((6 : Int32)).toInt = 6) c1511
                      have := sw_ne (by decide : ((7 : Int32)).toInt = 7) c1512
                      have := sw_ne (by decide : ((8 : Int32)).toInt = 8) c1513
                      have := sw_ne (by decide : ((9 : Int32)).toInt = 9) c1514
                      omega
                    · refine g_iconst X (0 : Int32) dX8_command_334 (by decide) ?_
                      have hf := Option.some.inj hf
                      subst hf
                      exact g_zret (b := false) X hr dX8_command_335
abbrev rmX8_runScript : Room := ({ frames := 8, cells := 0, slots := 0, locals := 185 } : Room)
def f_X8_runScript_B6 (v0 : MOv) (v2 : Fn) (v3 : Fn) (x1 : Int32) (x2 : Int64) (z : Int64 × Int32) : Option ((Int64 × Int32) ⊕ ((Int64))) :=
  if x1 ≤ z.2 then some (.inr ((z.1))) else if (3 : Int32) ≤ z.2 then some (.inr ((z.1))) else some (.inl ((z.1 * (100000 : Int64)), (z.2 + (1 : Int32))))
set_option maxRecDepth 100000 in
set_option maxHeartbeats 4000000 in
theorem b_X8_runScript_B6 {p : Program} {l : Launch} {e : Env} {s : State} {m : MethodId} {args : Array Value} {below : List Frame} {meth : Method} {c : Code} {A : Nat → Prop} {D : va_G} {cy : Nat → ClassId} {ad : (Nat → Nat) × (Nat → Nat)} {Q : State → Prop} (X : gK p s m args meth c A D cy ad cX8_runScript 8 RX8) (hr : meth.sig.returnType = (some .int)) {h0 h1 h2 h3 h4 h5 h6 h7 h8 : Nat} (v0 : MOv) (v2 : Fn) (v3 : Fn) (x1 : Int32) (x2 : Int64) (z : Int64 × Int32) {q : (Int64 × Int32) ⊕ ((Int64))} (hf : f_X8_runScript_B6 v0 v2 v3 x1 x2 z = some q) (K1 : ∀ s' : Int64 × Int32, q = .inl s' → GW p l e rmX8_runScript s m args below meth c A D 8 0 0 Q 6 [(0, .ref h0), (1, .int x1), (2, .long x2), (4, .long s'.1), (6, .int s'.2)] [] [MO h0 h1 h2 h3 h4 h5 h6 h7 h8 v0, AI cy 107 h2 v2, AI cy 107 h3 v3]) (K2 : ∀ e' : Int64, q = .inr (e') → GW p l e rmX8_runScript s m args below meth c A D 8 0 0 Q 32 [(0, .ref h0), (1, .int x1), (2, .long x2), (4, .long e')] [] [MO h0 h1 h2 h3 h4 h5 h6 h7 h8 v0, AI cy 107 h2 v2, AI cy 107 h3 v3]) : GW p l e rmX8_runScript s m args below meth c A D 8 0 0 Q 6 [(0, .ref h0), (1, .int x1), (2, .long x2), (4, .long z.1), (6, .int z.2)] [] [MO h0 h1 h2 h3 h4 h5 h6 h7 h8 v0, AI cy 107 h2 v2, AI cy 107 h3 v3] := by
  unfold f_X8_runScript_B6 at hf
  refine g_iload X dX8_runScript_6 4 rfl ?_
  refine g_iload_n X dX8_runScript_8 1 rfl rfl ?_
  refine g_icmp_ge X 32 dX8_runScript_9 (by decide) (fun c1562 => ?_) (fun c1562 => ?_)
  · have hf := opos c1562 hf
    refine g_sub [0, 1, 2, 3] (lv' := [(0, .ref h0), (1, .int x1), (2, .long x2), (4, .long z.1)]) rfl ?_
    exact K2 (z.1) (Option.some.inj hf).symm
  · have hf := oneg c1562 hf
    refine g_iload X dX8_runScript_12 4 rfl ?_
    refine g_iconst X (3 : Int32) dX8_runScript_14 (by decide) ?_
    refine g_icmp_ge X 32 dX8_runScript_15 (by decide) (fun c1561 => ?_) (fun c1561 => ?_)
    · have hf := opos c1561 hf
      refine g_sub [0, 1, 2, 3] (lv' := [(0, .ref h0), (1, .int x1), (2, .long x2), (4, .long z.1)]) rfl ?_
      exact K2 (z.1) (Option.some.inj hf).symm
    · have hf := oneg c1561 hf
      refine g_lload X dX8_runScript_18 3 rfl ?_
      refine g_ldc2 X lkl_X8_205 dX8_runScript_20 ?_
      refine g_lmul X dX8_runScript_23 ?_
      refine g_lstore (lv' := [(0, .ref h0), (1, .int x1), (2, .long x2), (4, .long (z.1 * (100000 : Int64))), (6, .int z.2)]) X dX8_runScript_24 [1, 2, 3, 0, 4] (Nat.le_of_ble_eq_true rfl) rfl ?_
      refine g_iinc (lv' := [(0, .ref h0), (1, .int x1), (2, .long x2), (4, .long (z.1 * (100000 : Int64))), (6, .int (z.2 + (1 : Int32)))]) (v := (1 : Int32)) X dX8_runScript_26 4 rfl (by decide) [1, 2, 3, 4, 0] (Nat.le_of_ble_eq_true rfl) rfl ?_
      refine g_goto X 6 dX8_runScript_29 (by decide) ?_
      exact K1 ((z.1 * (100000 : Int64)), (z.2 + (1 : Int32))) (Option.some.inj hf).symm
set_option maxRecDepth 100000 in
set_option maxHeartbeats 4000000 in
theorem w_X8_runScript_B6 {p : Program} {l : Launch} {e : Env} {s : State} {m : MethodId} {args : Array Value} {below : List Frame} {meth : Method} {c : Code} {A : Nat → Prop} {D : va_G} {cy : Nat → ClassId} {ad : (Nat → Nat) × (Nat → Nat)} {Q : State → Prop} (X : gK p s m args meth c A D cy ad cX8_runScript 8 RX8) (hr : meth.sig.returnType = (some .int)) {h0 h1 h2 h3 h4 h5 h6 h7 h8 : Nat} (v0 : MOv) (v2 : Fn) (v3 : Fn) (x1 : Int32) (x2 : Int64) {n : Nat} {z : Int64 × Int32} {q : (Int64)} (hf : itl (f_X8_runScript_B6 v0 v2 v3 x1 x2) n z = some q) (K2 : GW p l e rmX8_runScript s m args below meth c A D 8 0 0 Q 32 [(0, .ref h0), (1, .int x1), (2, .long x2), (4, .long q)] [] [MO h0 h1 h2 h3 h4 h5 h6 h7 h8 v0, AI cy 107 h2 v2, AI cy 107 h3 v3]) : GW p l e rmX8_runScript s m args below meth c A D 8 0 0 Q 6 [(0, .ref h0), (1, .int x1), (2, .long x2), (4, .long z.1), (6, .int z.2)] [] [MO h0 h1 h2 h3 h4 h5 h6 h7 h8 v0, AI cy 107 h2 v2, AI cy 107 h3 v3] :=
  itl_ind (f := f_X8_runScript_B6 v0 v2 v3 x1 x2) (I := fun z => GW p l e rmX8_runScript s m args below meth c A D 8 0 0 Q 6 [(0, .ref h0), (1, .int x1), (2, .long x2), (4, .long z.1), (6, .int z.2)] [] [MO h0 h1 h2 h3 h4 h5 h6 h7 h8 v0, AI cy 107 h2 v2, AI cy 107 h3 v3]) (J := (fun q => GW p l e rmX8_runScript s m args below meth c A D 8 0 0 Q 32 [(0, .ref h0), (1, .int x1), (2, .long x2), (4, .long q)] [] [MO h0 h1 h2 h3 h4 h5 h6 h7 h8 v0, AI cy 107 h2 v2, AI cy 107 h3 v3])) (fun z x h k1 k2 => b_X8_runScript_B6 X hr v0 v2 v3 x1 x2 z h (fun s' hs => k1 s' hs) (fun e' he => k2 e' he)) n z q hf K2
def f_X8_runScript_B86_b111 (v0 : MOv) (v2 : Fn) (v3 : Fn) (x1 : Int32) (x2 : Int64) (x4 : Int64) (x6 : Int32) (x7 : Int32) : Option ((Int64 × Int32 × Fn) ⊕ ((Int32 × Fn) ⊕ (Fn))) :=
  (f_X8_command v0 v3 (x7 / (10000 : Int32)) (x7 - x7 / (10000 : Int32) * (10000 : Int32))).bind (fun q1568 => if (b2i q1568.1) = 0 then some (.inr (.inl (x6, q1568.2))) else some (.inl (x4, (x6 + (1 : Int32)), q1568.2)))
set_option maxRecDepth 100000 in
set_option maxHeartbeats 4000000 in
theorem j_X8_runScript_B86_b111 {p : Program} {l : Launch} {e : Env} {s : State} {m : MethodId} {args : Array Value} {below : List Frame} {meth : Method} {c : Code} {A : Nat → Prop} {D : va_G} {cy : Nat → ClassId} {ad : (Nat → Nat) × (Nat → Nat)} {Q : State → Prop} (X : gK p s m args meth c A D cy ad cX8_runScript 8 RX8) (hr : meth.sig.returnType = (some .int)) {h0 h1 h2 h3 h4 h5 h6 h7 h8 : Nat} (v0 : MOv) (v2 : Fn) (v3 : Fn) (x1 : Int32) (x2 : Int64) (x4 : Int64) (x6 : Int32) (x7 : Int32) {q : (Int64 × Int32 × Fn) ⊕ ((Int32 × Fn) ⊕ (Fn))} (hf : f_X8_runScript_B86_b111 v0 v2 v3 x1 x2 x4 x6 x7 = some q) (K1 : ∀ s' : Int64 × Int32 × Fn, q = .inl s' → GW p l e rmX8_runScript s m args below meth c A D 8 0 0 Q 86 [(0, .ref h0), (1, .int x1), (2, .long x2), (4, .long s'.1), (6, .int s'.2.1)] [] [MO h0 h1 h2 h3 h4 h5 h6 h7 h8 v0, AI cy 107 h2 v2, AI cy 107 h3 s'.2.2]) (K2 : ∀ e' : Int32 × Fn, q = .inr (.inl e') → GW p l e rmX8_runScript s m args below meth c A D 8 0 0 Q 130 [(6, .int e'.1)] [] [MO h0 h1 h2 h3 h4 h5 h6 h7 h8 v0, AI cy 107 h2 v2, AI cy 107 h3 e'.2]) (K3 : ∀ e' : Fn, q = .inr (.inr e') → GW p l e rmX8_runScript s m args below meth c A D 8 0 0 Q 139 [] [] [MO h0 h1 h2 h3 h4 h5 h6 h7 h8 v0, AI cy 107 h2 v2, AI cy 107 h3 e']) : GW p l e rmX8_runScript s m args below meth c A D 8 0 0 Q 111 [(0, .ref h0), (1, .int x1), (2, .long x2), (4, .long x4), (6, .int x6), (7, .int x7)] [] [MO h0 h1 h2 h3 h4 h5 h6 h7 h8 v0, AI cy 107 h2 v2, AI cy 107 h3 v3] := by
  unfold f_X8_runScript_B86_b111 at hf
  refine g_aload_n X dX8_runScript_111 0 rfl rfl ?_
  refine g_iload X dX8_runScript_112 5 rfl ?_
  refine g_sipush X (10000 : Int32) dX8_runScript_114 (by decide) ?_
  refine g_idiv X dX8_runScript_117 (by decide) ?_
  refine g_iload X dX8_runScript_118 5 rfl ?_
  refine g_sipush X (10000 : Int32) dX8_runScript_120 (by decide) ?_
  refine g_irem X dX8_runScript_123 (by decide) ?_
  obtain ⟨q1568, hq1568, hf⟩ := obind hf
  refine g_callV (gs' := [MO h0 h1 h2 h3 h4 h5 h6 h7 h8 v0, AI cy 107 h2 v2, AI cy 107 h3 q1568.2]) (rest := []) X dX8_runScript_124 (c_X8_command l D cy ad h0 h1 h2 h3 h4 h5 h6 h7 h8 v0 v3 (x7 / (10000 : Int32)) (x7 - x7 / (10000 : Int32) * (10000 : Int32)) hq1568) mf_X8_command mv_X8_command lkm_X8_207 ⟨(Nat.le_of_ble_eq_true rfl), (Nat.le_of_ble_eq_true rfl), (Nat.le_of_ble_eq_true rfl), (Nat.le_of_ble_eq_true rfl)⟩ 0 0 rfl rfl rfl rfl [0, 2, 1] _ (by decide : [0, 2, 1].Perm (List.range 3)) rfl (by decide : [0, 2, 1].Perm (List.range 3)) rfl (Nat.le_of_ble_eq_true rfl) rfl ?_
  refine g_if_ne X 133 dX8_runScript_127 (by decide) (fun c1569 => ?_) (fun c1569 => ?_)
  · have hf := oneg c1569 hf
    refine g_iinc (lv' := [(0, .ref h0), (1, .int x1), (2, .long x2), (4, .long x4), (6, .int (x6 + (1 : Int32))), (7, .int x7)]) (v := (1 : Int32)) X dX8_runScript_133 4 rfl (by decide) [1, 2, 3, 4, 0, 5] (Nat.le_of_ble_eq_true rfl) rfl ?_
    refine g_goto X 86 dX8_runScript_136 (by decide) ?_
    refine g_sub [0, 1, 2, 3, 4] (lv' := [(0, .ref h0), (1, .int x1), (2, .long x2), (4, .long x4), (6, .int (x6 + (1 : Int32)))]) rfl ?_
    exact K1 (x4, (x6 + (1 : Int32)), q1568.2) (Option.some.inj hf).symm
  · have hf := opos c1569 hf
    refine g_sub [4] (lv' := [(6, .int x6)]) rfl ?_
    exact K2 (x6, q1568.2) (Option.some.inj hf).symm
def f_X8_runScript_B86 (v0 : MOv) (v2 : Fn) (x1 : Int32) (x2 : Int64) (z : Int64 × Int32 × Fn) : Option ((Int64 × Int32 × Fn) ⊕ ((Int32 × Fn) ⊕ (Fn))) :=
  if x1 ≤ z.2.1 then some (.inr (.inr (z.2.2))) else if (z.1 / (100000 : Int64)) = 0 then none else f_X8_runScript_B86_b111 v0 v2 z.2.2 x1 x2 (z.1 / (100000 : Int64)) z.2.1 (((x2 / (z.1 / (100000 : Int64))) - (x2 / (z.1 / (100000 : Int64))) / (100000 : Int64) * (100000 : Int64)).toInt32)
set_option maxRecDepth 100000 in
set_option maxHeartbeats 4000000 in
theorem b_X8_runScript_B86 {p : Program} {l : Launch} {e : Env} {s : State} {m : MethodId} {args : Array Value} {below : List Frame} {meth : Method} {c : Code} {A : Nat → Prop} {D : va_G} {cy : Nat → ClassId} {ad : (Nat → Nat) × (Nat → Nat)} {Q : State → Prop} (X : gK p s m args meth c A D cy ad cX8_runScript 8 RX8) (hr : meth.sig.returnType = (some .int)) {h0 h1 h2 h3 h4 h5 h6 h7 h8 : Nat} (v0 : MOv) (v2 : Fn) (x1 : Int32) (x2 : Int64) (z : Int64 × Int32 × Fn) {q : (Int64 × Int32 × Fn) ⊕ ((Int32 × Fn) ⊕ (Fn))} (hf : f_X8_runScript_B86 v0 v2 x1 x2 z = some q) (K1 : ∀ s' : Int64 × Int32 × Fn, q = .inl s' → GW p l e rmX8_runScript s m args below meth c A D 8 0 0 Q 86 [(0, .ref h0), (1, .int x1), (2, .long x2), (4, .long s'.1), (6, .int s'.2.1)] [] [MO h0 h1 h2 h3 h4 h5 h6 h7 h8 v0, AI cy 107 h2 v2, AI cy 107 h3 s'.2.2]) (K2 : ∀ e' : Int32 × Fn, q = .inr (.inl e') → GW p l e rmX8_runScript s m args below meth c A D 8 0 0 Q 130 [(6, .int e'.1)] [] [MO h0 h1 h2 h3 h4 h5 h6 h7 h8 v0, AI cy 107 h2 v2, AI cy 107 h3 e'.2]) (K3 : ∀ e' : Fn, q = .inr (.inr e') → GW p l e rmX8_runScript s m args below meth c A D 8 0 0 Q 139 [] [] [MO h0 h1 h2 h3 h4 h5 h6 h7 h8 v0, AI cy 107 h2 v2, AI cy 107 h3 e']) : GW p l e rmX8_runScript s m args below meth c A D 8 0 0 Q 86 [(0, .ref h0), (1, .int x1), (2, .long x2), (4, .long z.1), (6, .int z.2.1)] [] [MO h0 h1 h2 h3 h4 h5 h6 h7 h8 v0, AI cy 107 h2 v2, AI cy 107 h3 z.2.2] := by
  unfold f_X8_runScript_B86 at hf
  refine g_iload X dX8_runScript_86 4 rfl ?_
  refine g_iload_n X dX8_runScript_88 1 rfl rfl ?_
  refine g_icmp_ge X 139 dX8_runScript_89 (by decide) (fun c1570 => ?_) (fun c1570 => ?_)
  · have hf := opos c1570 hf
    refine g_sub [] (lv' := []) rfl ?_
    exact K3 (z.2.2) (Option.some.inj hf).symm
  · have hf := oneg c1570 hf
    refine g_lload X dX8_runScript_92 3 rfl ?_
    refine g_ldc2 X lkl_X8_205 dX8_runScript_94 ?_
    refine g_ldiv X dX8_runScript_97 (by decide) ?_
    refine g_lstore (lv' := [(0, .ref h0), (1, .int x1), (2, .long x2), (4, .long (z.1 / (100000 : Int64))), (6, .int z.2.1)]) X dX8_runScript_98 [1, 2, 3, 0, 4] (Nat.le_of_ble_eq_true rfl) rfl ?_
    refine g_lload_n X dX8_runScript_100 2 rfl rfl ?_
    refine g_lload X dX8_runScript_101 3 rfl ?_
    obtain ⟨n1567, hf⟩ := oguard hf
    refine g_ldiv X dX8_runScript_103 n1567 ?_
    refine g_ldc2 X lkl_X8_205 dX8_runScript_104 ?_
    refine g_lrem X dX8_runScript_107 (by decide) ?_
    refine g_l2i X dX8_runScript_108 ?_
    refine g_istore (lv' := [(0, .ref h0), (1, .int x1), (2, .long x2), (4, .long (z.1 / (100000 : Int64))), (6, .int z.2.1), (7, .int (((x2 / (z.1 / (100000 : Int64))) - (x2 / (z.1 / (100000 : Int64))) / (100000 : Int64) * (100000 : Int64)).toInt32))]) X dX8_runScript_109 [1, 2, 3, 4, 5, 0] (Nat.le_of_ble_eq_true rfl) rfl ?_
    exact j_X8_runScript_B86_b111 X hr v0 v2 z.2.2 x1 x2 (z.1 / (100000 : Int64)) z.2.1 (((x2 / (z.1 / (100000 : Int64))) - (x2 / (z.1 / (100000 : Int64))) / (100000 : Int64) * (100000 : Int64)).toInt32) hf K1 K2 K3
set_option maxRecDepth 100000 in
set_option maxHeartbeats 4000000 in
theorem w_X8_runScript_B86 {p : Program} {l : Launch} {e : Env} {s : State} {m : MethodId} {args : Array Value} {below : List Frame} {meth : Method} {c : Code} {A : Nat → Prop} {D : va_G} {cy : Nat → ClassId} {ad : (Nat → Nat) × (Nat → Nat)} {Q : State → Prop} (X : gK p s m args meth c A D cy ad cX8_runScript 8 RX8) (hr : meth.sig.returnType = (some .int)) {h0 h1 h2 h3 h4 h5 h6 h7 h8 : Nat} (v0 : MOv) (v2 : Fn) (x1 : Int32) (x2 : Int64) {n : Nat} {z : Int64 × Int32 × Fn} {q : (Int32 × Fn) ⊕ (Fn)} (hf : itl (f_X8_runScript_B86 v0 v2 x1 x2) n z = some q) (K2 : ∀ e' : Int32 × Fn, q = .inl e' → GW p l e rmX8_runScript s m args below meth c A D 8 0 0 Q 130 [(6, .int e'.1)] [] [MO h0 h1 h2 h3 h4 h5 h6 h7 h8 v0, AI cy 107 h2 v2, AI cy 107 h3 e'.2]) (K3 : ∀ e' : Fn, q = .inr e' → GW p l e rmX8_runScript s m args below meth c A D 8 0 0 Q 139 [] [] [MO h0 h1 h2 h3 h4 h5 h6 h7 h8 v0, AI cy 107 h2 v2, AI cy 107 h3 e']) : GW p l e rmX8_runScript s m args below meth c A D 8 0 0 Q 86 [(0, .ref h0), (1, .int x1), (2, .long x2), (4, .long z.1), (6, .int z.2.1)] [] [MO h0 h1 h2 h3 h4 h5 h6 h7 h8 v0, AI cy 107 h2 v2, AI cy 107 h3 z.2.2] :=
  itl_ind (f := f_X8_runScript_B86 v0 v2 x1 x2) (I := fun z => GW p l e rmX8_runScript s m args below meth c A D 8 0 0 Q 86 [(0, .ref h0), (1, .int x1), (2, .long x2), (4, .long z.1), (6, .int z.2.1)] [] [MO h0 h1 h2 h3 h4 h5 h6 h7 h8 v0, AI cy 107 h2 v2, AI cy 107 h3 z.2.2]) (J := (fun q => (∀ e' : Int32 × Fn, q = .inl e' → GW p l e rmX8_runScript s m args below meth c A D 8 0 0 Q 130 [(6, .int e'.1)] [] [MO h0 h1 h2 h3 h4 h5 h6 h7 h8 v0, AI cy 107 h2 v2, AI cy 107 h3 e'.2]) ∧ (∀ e' : Fn, q = .inr e' → GW p l e rmX8_runScript s m args below meth c A D 8 0 0 Q 139 [] [] [MO h0 h1 h2 h3 h4 h5 h6 h7 h8 v0, AI cy 107 h2 v2, AI cy 107 h3 e']))) (fun z x h k1 k2 => b_X8_runScript_B86 X hr v0 v2 x1 x2 z h (fun s' hs => k1 s' hs) (fun e' he => (k2 _ he).1 e' rfl) (fun e' he => (k2 _ he).2 e' rfl)) n z q hf ⟨K2, K3⟩
def f_X8_runScript_b62 (v0 : MOv) (v2 : Fn) (v3 : Fn) (x1 : Int32) (x2 : Int64) (x4 : Int64) (y0 : Bool) : Option (Int32 × MOv × Fn) :=
  (f_X8_refused v0 (b2i y0)).bind (fun q1565 => if (b2i q1565.1) = 0 then (f_X8_copyState 107 107 v2 v3 (0 : Int32) (0 : Int32)).bind (fun q1566 => (itl (f_X8_runScript_B86 q1565.2 v2 x1 x2) FU (x4, (0 : Int32), q1566)).bind (Sum.elim (fun q1571e => some (q1571e.1, q1565.2, q1571e.2)) (fun q1571e => some ((-1 : Int32), q1565.2, q1571e)))) else some ((0 : Int32), q1565.2, v3))
set_option maxRecDepth 100000 in
set_option maxHeartbeats 4000000 in
theorem j_X8_runScript_b62 {p : Program} {l : Launch} {e : Env} {s : State} {m : MethodId} {args : Array Value} {below : List Frame} {meth : Method} {c : Code} {A : Nat → Prop} {D : va_G} {cy : Nat → ClassId} {ad : (Nat → Nat) × (Nat → Nat)} (X : gK p s m args meth c A D cy ad cX8_runScript 8 RX8) (hr : meth.sig.returnType = (some .int)) {h0 h1 h2 h3 h4 h5 h6 h7 h8 : Nat} (v0 : MOv) (v2 : Fn) (v3 : Fn) (x1 : Int32) (x2 : Int64) (x4 : Int64) (y0 : Bool) {q : Int32 × MOv × Fn} (hf : f_X8_runScript_b62 v0 v2 v3 x1 x2 x4 y0 = some q) : GW p l e rmX8_runScript s m args below meth c A D 8 0 0 (MQ below (cmQ D cy A (some (.int q.1)) ([MO h0 h1 h2 h3 h4 h5 h6 h7 h8 q.2.1, AI cy 107 h2 v2, AI cy 107 h3 q.2.2] : List va_W).flatten) args s 0 0 A) 62 [(0, .ref h0), (1, .int x1), (2, .long x2), (4, .long x4)] [.int (b2i y0), .ref h0] [MO h0 h1 h2 h3 h4 h5 h6 h7 h8 v0, AI cy 107 h2 v2, AI cy 107 h3 v3] := by
  unfold f_X8_runScript_b62 at hf
  obtain ⟨q1565, hq1565, hf⟩ := obind hf
  refine g_callV (gs' := [MO h0 h1 h2 h3 h4 h5 h6 h7 h8 q1565.2, AI cy 107 h2 v2, AI cy 107 h3 v3]) (rest := []) X dX8_runScript_62 (c_X8_refused l D cy ad h0 h1 h2 h3 h4 h5 h6 h7 h8 v0 (b2i y0) hq1565) mf_X8_refused mv_X8_refused lkm_X8_102 ⟨(Nat.le_of_ble_eq_true rfl), (Nat.le_of_ble_eq_true rfl), (Nat.le_of_ble_eq_true rfl), (Nat.le_of_ble_eq_true rfl)⟩ 0 0 rfl rfl rfl rfl [0, 1, 2] _ (by decide : [0, 1, 2].Perm (List.range 3)) rfl (by decide : [0, 1, 2].Perm (List.range 3)) rfl (Nat.le_of_ble_eq_true rfl) rfl ?_
  refine g_if_eq X 70 dX8_runScript_65 (by decide) (fun c1572 => ?_) (fun c1572 => ?_)
  · have hf := opos c1572 hf
    refine g_aload_n X dX8_runScript_70 0 rfl rfl ?_
    refine g_get X dX8_runScript_71 ck_X8 0 0 3 rfl rfl (Nat.le_of_ble_eq_true rfl) lkf_X8_13 rfl ?_
    refine g_iconst X (0 : Int32) dX8_runScript_74 (by decide) ?_
    refine g_aload_n X dX8_runScript_75 0 rfl rfl ?_
    refine g_get X dX8_runScript_76 ck_X8 0 0 4 rfl rfl (Nat.le_of_ble_eq_true rfl) lkf_X8_16 rfl ?_
    refine g_iconst X (0 : Int32) dX8_runScript_79 (by decide) ?_
    obtain ⟨q1566, hq1566, hf⟩ := obind hf
    refine g_callS (gs' := [MO h0 h1 h2 h3 h4 h5 h6 h7 h8 q1565.2, AI cy 107 h2 v2, AI cy 107 h3 q1566]) (rest := []) X dX8_runScript_80 (c_X8_copyState l D cy ad h2 h3 107 107 v2 v3 (0 : Int32) (0 : Int32) hq1566) mf_X8_copyState ms_X8_copyState lkm_X8_154 ⟨(Nat.le_of_ble_eq_true rfl), (Nat.le_of_ble_eq_true rfl), (Nat.le_of_ble_eq_true rfl), (Nat.le_of_ble_eq_true rfl)⟩ [1, 2, 0] _ (by decide : [1, 2, 0].Perm (List.range 3)) rfl (by decide : [1, 2, 0].Perm (List.range 3)) rfl (Nat.le_of_ble_eq_true rfl) rfl ?_
    refine g_iconst X (0 : Int32) dX8_runScript_83 (by decide) ?_
    refine g_istore (lv' := [(0, .ref h0), (1, .int x1), (2, .long x2), (4, .long x4), (6, .int (0 : Int32))]) X dX8_runScript_84 [1, 2, 3, 4, 0] (Nat.le_of_ble_eq_true rfl) rfl ?_
    obtain ⟨q1571, hq1571, hf⟩ := obind hf
    refine w_X8_runScript_B86 X hr q1565.2 v2 x1 x2 hq1571 (fun q1571e hq1571e => ?_) (fun q1571e hq1571e => ?_)
    · subst hq1571e
      have hf := sinl hf
      refine g_iload X dX8_runScript_130 0 rfl ?_
      have hf := Option.some.inj hf
      subst hf
      exact g_iret X hr dX8_runScript_132
    · subst hq1571e
      have hf := sinr hf
      refine g_iconst X (-1 : Int32) dX8_runScript_139 (by decide) ?_
      have hf := Option.some.inj hf
      subst hf
      exact g_iret X hr dX8_runScript_140
  · have hf := oneg c1572 hf
    refine g_iconst X (0 : Int32) dX8_runScript_68 (by decide) ?_
    have hf := Option.some.inj hf
    subst hf
    exact g_iret X hr dX8_runScript_69
def f_X8_runScript_b61 (v0 : MOv) (v2 : Fn) (v3 : Fn) (x1 : Int32) (x2 : Int64) (x4 : Int64) : Option (Int32 × MOv × Fn) :=
  f_X8_runScript_b62 v0 v2 v3 x1 x2 x4 true
set_option maxRecDepth 100000 in
set_option maxHeartbeats 4000000 in
theorem j_X8_runScript_b61 {p : Program} {l : Launch} {e : Env} {s : State} {m : MethodId} {args : Array Value} {below : List Frame} {meth : Method} {c : Code} {A : Nat → Prop} {D : va_G} {cy : Nat → ClassId} {ad : (Nat → Nat) × (Nat → Nat)} (X : gK p s m args meth c A D cy ad cX8_runScript 8 RX8) (hr : meth.sig.returnType = (some .int)) {h0 h1 h2 h3 h4 h5 h6 h7 h8 : Nat} (v0 : MOv) (v2 : Fn) (v3 : Fn) (x1 : Int32) (x2 : Int64) (x4 : Int64) {q : Int32 × MOv × Fn} (hf : f_X8_runScript_b61 v0 v2 v3 x1 x2 x4 = some q) : GW p l e rmX8_runScript s m args below meth c A D 8 0 0 (MQ below (cmQ D cy A (some (.int q.1)) ([MO h0 h1 h2 h3 h4 h5 h6 h7 h8 q.2.1, AI cy 107 h2 v2, AI cy 107 h3 q.2.2] : List va_W).flatten) args s 0 0 A) 61 [(0, .ref h0), (1, .int x1), (2, .long x2), (4, .long x4)] [.ref h0] [MO h0 h1 h2 h3 h4 h5 h6 h7 h8 v0, AI cy 107 h2 v2, AI cy 107 h3 v3] := by
  unfold f_X8_runScript_b61 at hf
  refine g_iconst X (1 : Int32) dX8_runScript_61 (by decide) ?_
  exact j_X8_runScript_b62 X hr v0 v2 v3 x1 x2 x4 true hf
def f_X8_runScript_b32 (v0 : MOv) (v2 : Fn) (v3 : Fn) (x1 : Int32) (x2 : Int64) (x4 : Int64) : Option (Int32 × MOv × Fn) :=
  (f_X8_in (x1.toInt64) (1 : Int64) (3 : Int64)).bind (fun q1564 => if (b2i q1564) = 0 then f_X8_runScript_b61 v0 v2 v3 x1 x2 x4 else (f_X8_in x2 (0 : Int64) (x4 - (1 : Int64))).bind (fun q1573 => if (b2i q1573) = 0 then f_X8_runScript_b61 v0 v2 v3 x1 x2 x4 else f_X8_runScript_b62 v0 v2 v3 x1 x2 x4 false))
set_option maxRecDepth 100000 in
set_option maxHeartbeats 4000000 in
theorem j_X8_runScript_b32 {p : Program} {l : Launch} {e : Env} {s : State} {m : MethodId} {args : Array Value} {below : List Frame} {meth : Method} {c : Code} {A : Nat → Prop} {D : va_G} {cy : Nat → ClassId} {ad : (Nat → Nat) × (Nat → Nat)} (X : gK p s m args meth c A D cy ad cX8_runScript 8 RX8) (hr : meth.sig.returnType = (some .int)) {h0 h1 h2 h3 h4 h5 h6 h7 h8 : Nat} (v0 : MOv) (v2 : Fn) (v3 : Fn) (x1 : Int32) (x2 : Int64) (x4 : Int64) {q : Int32 × MOv × Fn} (hf : f_X8_runScript_b32 v0 v2 v3 x1 x2 x4 = some q) : GW p l e rmX8_runScript s m args below meth c A D 8 0 0 (MQ below (cmQ D cy A (some (.int q.1)) ([MO h0 h1 h2 h3 h4 h5 h6 h7 h8 q.2.1, AI cy 107 h2 v2, AI cy 107 h3 q.2.2] : List va_W).flatten) args s 0 0 A) 32 [(0, .ref h0), (1, .int x1), (2, .long x2), (4, .long x4)] [] [MO h0 h1 h2 h3 h4 h5 h6 h7 h8 v0, AI cy 107 h2 v2, AI cy 107 h3 v3] := by
  unfold f_X8_runScript_b32 at hf
  refine g_aload_n X dX8_runScript_32 0 rfl rfl ?_
  refine g_iload_n X dX8_runScript_33 1 rfl rfl ?_
  refine g_i2l X dX8_runScript_34 ?_
  refine g_lconst X (1 : Int64) dX8_runScript_35 (by decide) ?_
  refine g_ldc2 X lkl_X8_47 dX8_runScript_36 ?_
  obtain ⟨q1564, hq1564, hf⟩ := obind hf
  refine g_callS (gs' := [MO h0 h1 h2 h3 h4 h5 h6 h7 h8 v0, AI cy 107 h2 v2, AI cy 107 h3 v3]) (rest := [.ref h0]) X dX8_runScript_39 (c_X8_in l D cy ad (x1.toInt64) (1 : Int64) (3 : Int64) hq1564) mf_X8_in ms_X8_in lkm_X8_43 ⟨(Nat.le_of_ble_eq_true rfl), (Nat.le_of_ble_eq_true rfl), (Nat.le_of_ble_eq_true rfl), (Nat.le_of_ble_eq_true rfl)⟩ [0, 1, 2] _ (by decide : [0, 1, 2].Perm (List.range 3)) rfl (by decide : [0, 1, 2].Perm (List.range 3)) rfl (Nat.le_of_ble_eq_true rfl) rfl ?_
  refine g_if_eq X 61 dX8_runScript_42 (by decide) (fun c1575 => ?_) (fun c1575 => ?_)
  · have hf := opos c1575 hf
    exact j_X8_runScript_b61 X hr v0 v2 v3 x1 x2 x4 hf
  · have hf := oneg c1575 hf
    refine g_lload_n X dX8_runScript_45 2 rfl rfl ?_
    refine g_lconst X (0 : Int64) dX8_runScript_46 (by decide) ?_
    refine g_lload X dX8_runScript_47 3 rfl ?_
    refine g_lconst X (1 : Int64) dX8_runScript_49 (by decide) ?_
    refine g_lsub X dX8_runScript_50 ?_
    obtain ⟨q1573, hq1573, hf⟩ := obind hf
    refine g_callS (gs' := [MO h0 h1 h2 h3 h4 h5 h6 h7 h8 v0, AI cy 107 h2 v2, AI cy 107 h3 v3]) (rest := [.ref h0]) X dX8_runScript_51 (c_X8_in l D cy ad x2 (0 : Int64) (x4 - (1 : Int64)) hq1573) mf_X8_in ms_X8_in lkm_X8_43 ⟨(Nat.le_of_ble_eq_true rfl), (Nat.le_of_ble_eq_true rfl), (Nat.le_of_ble_eq_true rfl), (Nat.le_of_ble_eq_true rfl)⟩ [0, 1, 2] _ (by decide : [0, 1, 2].Perm (List.range 3)) rfl (by decide : [0, 1, 2].Perm (List.range 3)) rfl (Nat.le_of_ble_eq_true rfl) rfl ?_
    refine g_if_eq X 61 dX8_runScript_54 (by decide) (fun c1574 => ?_) (fun c1574 => ?_)
    · have hf := opos c1574 hf
      exact j_X8_runScript_b61 X hr v0 v2 v3 x1 x2 x4 hf
    · have hf := oneg c1574 hf
      refine g_iconst X (0 : Int32) dX8_runScript_57 (by decide) ?_
      refine g_goto X 62 dX8_runScript_58 (by decide) ?_
      exact j_X8_runScript_b62 X hr v0 v2 v3 x1 x2 x4 false hf
def f_X8_runScript (v0 : MOv) (v2 : Fn) (v3 : Fn) (p1 : Int32) (p2 : Int64) : Option (Int32 × MOv × Fn) :=
  (itl (f_X8_runScript_B6 v0 v2 v3 p1 p2) FU ((1 : Int64), (0 : Int32))).bind (fun q1563 => f_X8_runScript_b32 v0 v2 v3 p1 p2 q1563)
set_option maxRecDepth 100000 in
set_option maxHeartbeats 4000000 in
theorem c_X8_runScript (l : Launch) (D : va_G) (cy : Nat → ClassId) (ad : (Nat → Nat) × (Nat → Nat)) (h0 : Nat) (h1 : Nat) (h2 : Nat) (h3 : Nat) (h4 : Nat) (h5 : Nat) (h6 : Nat) (h7 : Nat) (h8 : Nat) (v0 : MOv) (v2 : Fn) (v3 : Fn) (p1 : Int32) (p2 : Int64) {q : Int32 × MOv × Fn} (hf : f_X8_runScript v0 v2 v3 p1 p2 = some q) : CM l yX8_runScript cX8_runScript 8 (some .int) rmX8_runScript D cy ad [.ref h0, .int p1, .long p2] [MO h0 h1 h2 h3 h4 h5 h6 h7 h8 v0, AI cy 107 h2 v2, AI cy 107 h3 v3] (some (.int q.1)) [MO h0 h1 h2 h3 h4 h5 h6 h7 h8 q.2.1, AI cy 107 h2 v2, AI cy 107 h3 q.2.2] := by
  refine cm_of (lv0 := [(0, .ref h0), (1, .int p1), (2, .long p2)]) (by decide) (Nat.le_of_ble_eq_true rfl) rfl ?_
  intro p e s m args below meth c A X hr hn
  have X : gK p s m args meth c A D cy ad cX8_runScript 8 RX8 := X
  unfold f_X8_runScript at hf
  refine g_lconst X (1 : Int64) dX8_runScript_0 (by decide) ?_
  refine g_lstore (lv' := [(0, .ref h0), (1, .int p1), (2, .long p2), (4, .long (1 : Int64))]) X dX8_runScript_1 [1, 2, 3, 0] (Nat.le_of_ble_eq_true rfl) rfl ?_
  refine g_iconst X (0 : Int32) dX8_runScript_3 (by decide) ?_
  refine g_istore (lv' := [(0, .ref h0), (1, .int p1), (2, .long p2), (4, .long (1 : Int64)), (6, .int (0 : Int32))]) X dX8_runScript_4 [1, 2, 3, 4, 0] (Nat.le_of_ble_eq_true rfl) rfl ?_
  obtain ⟨q1563, hq1563, hf⟩ := obind hf
  refine w_X8_runScript_B6 X hr v0 v2 v3 p1 p2 hq1563 ?_
  exact j_X8_runScript_b32 X hr v0 v2 v3 p1 p2 q1563 hf
abbrev rmX8_turn : Room := ({ frames := 4, cells := 0, slots := 0, locals := 93 } : Room)
def f_X8_turn_b152 (w0 : Fn) (y0 : Bool) (y1 : Int32) : Option (Fn) :=
  (f_X8_accuseOn w0 y1 y0).bind (fun q1592 => some q1592.2)
set_option maxRecDepth 100000 in
set_option maxHeartbeats 4000000 in
theorem j_X8_turn_b152 {p : Program} {l : Launch} {e : Env} {s : State} {m : MethodId} {args : Array Value} {below : List Frame} {meth : Method} {c : Code} {A : Nat → Prop} {D : va_G} {cy : Nat → ClassId} {ad : (Nat → Nat) × (Nat → Nat)} (X : gK p s m args meth c A D cy ad cX8_turn 7 RX8) (hr : meth.sig.returnType = none) {g0 : Nat} (w0 : Fn) (y0 : Bool) (y1 : Int32) {q : Fn} (hf : f_X8_turn_b152 w0 y0 y1 = some q) : GW p l e rmX8_turn s m args below meth c A D 7 0 0 (MQ below (cmQ D cy A none ([AI cy 107 g0 q] : List va_W).flatten) args s 0 0 A) 152 [] [.int (b2i y0), .int y1, .ref g0] [AI cy 107 g0 w0] := by
  unfold f_X8_turn_b152 at hf
  obtain ⟨q1592, hq1592, hf⟩ := obind hf
  refine g_callS (gs' := [AI cy 107 g0 q1592.2]) (rest := []) X dX8_turn_152 (c_X8_accuseOn l D cy ad g0 w0 y1 y0 hq1592) mf_X8_accuseOn ms_X8_accuseOn lkm_X8_184 ⟨(Nat.le_of_ble_eq_true rfl), (Nat.le_of_ble_eq_true rfl), (Nat.le_of_ble_eq_true rfl), (Nat.le_of_ble_eq_true rfl)⟩ [0] _ (by decide : [0].Perm (List.range 1)) rfl (by decide : [0].Perm (List.range 1)) rfl (Nat.le_of_ble_eq_true rfl) rfl ?_
  refine g_pop X dX8_turn_155 rfl ?_
  refine g_goto X 179 dX8_turn_156 (by decide) ?_
  have hf := Option.some.inj hf
  subst hf
  exact g_vret X hr dX8_turn_179
def f_X8_turn_b90 (w0 : Fn) (y0 : Int32) (y1 : Int32) : Option (Fn) :=
  (f_X8_armsOn w0 y1 y0).bind (fun q1599 => some q1599.2)
set_option maxRecDepth 100000 in
set_option maxHeartbeats 4000000 in
theorem j_X8_turn_b90 {p : Program} {l : Launch} {e : Env} {s : State} {m : MethodId} {args : Array Value} {below : List Frame} {meth : Method} {c : Code} {A : Nat → Prop} {D : va_G} {cy : Nat → ClassId} {ad : (Nat → Nat) × (Nat → Nat)} (X : gK p s m args meth c A D cy ad cX8_turn 7 RX8) (hr : meth.sig.returnType = none) {g0 : Nat} (w0 : Fn) (y0 : Int32) (y1 : Int32) {q : Fn} (hf : f_X8_turn_b90 w0 y0 y1 = some q) : GW p l e rmX8_turn s m args below meth c A D 7 0 0 (MQ below (cmQ D cy A none ([AI cy 107 g0 q] : List va_W).flatten) args s 0 0 A) 90 [] [.int y0, .int y1, .ref g0] [AI cy 107 g0 w0] := by
  unfold f_X8_turn_b90 at hf
  obtain ⟨q1599, hq1599, hf⟩ := obind hf
  refine g_callS (gs' := [AI cy 107 g0 q1599.2]) (rest := []) X dX8_turn_90 (c_X8_armsOn l D cy ad g0 w0 y1 y0 hq1599) mf_X8_armsOn ms_X8_armsOn lkm_X8_138 ⟨(Nat.le_of_ble_eq_true rfl), (Nat.le_of_ble_eq_true rfl), (Nat.le_of_ble_eq_true rfl), (Nat.le_of_ble_eq_true rfl)⟩ [0] _ (by decide : [0].Perm (List.range 1)) rfl (by decide : [0].Perm (List.range 1)) rfl (Nat.le_of_ble_eq_true rfl) rfl ?_
  refine g_pop X dX8_turn_93 rfl ?_
  refine g_goto X 179 dX8_turn_94 (by decide) ?_
  have hf := Option.some.inj hf
  subst hf
  exact g_vret X hr dX8_turn_179
def f_X8_turn_b70 (w0 : Fn) (x2 : Int32) (y0 : Int32) : Option (Fn) :=
  if (x2 - x2 / (3 : Int32) * (3 : Int32)) = 0 then f_X8_turn_b90 w0 ((1 : Int32) + ((x2 / (32 : Int32)) - (x2 / (32 : Int32)) / (20 : Int32) * (20 : Int32))) y0 else f_X8_turn_b90 w0 (10 : Int32) y0
set_option maxRecDepth 100000 in
set_option maxHeartbeats 4000000 in
theorem j_X8_turn_b70 {p : Program} {l : Launch} {e : Env} {s : State} {m : MethodId} {args : Array Value} {below : List Frame} {meth : Method} {c : Code} {A : Nat → Prop} {D : va_G} {cy : Nat → ClassId} {ad : (Nat → Nat) × (Nat → Nat)} (X : gK p s m args meth c A D cy ad cX8_turn 7 RX8) (hr : meth.sig.returnType = none) {g0 : Nat} (w0 : Fn) (x2 : Int32) (y0 : Int32) {q : Fn} (hf : f_X8_turn_b70 w0 x2 y0 = some q) : GW p l e rmX8_turn s m args below meth c A D 7 0 0 (MQ below (cmQ D cy A none ([AI cy 107 g0 q] : List va_W).flatten) args s 0 0 A) 70 [(2, .int x2)] [.int y0, .ref g0] [AI cy 107 g0 w0] := by
  unfold f_X8_turn_b70 at hf
  refine g_iload_n X dX8_turn_70 0 rfl rfl ?_
  refine g_iconst X (3 : Int32) dX8_turn_71 (by decide) ?_
  refine g_irem X dX8_turn_72 (by decide) ?_
  refine g_if_ne X 88 dX8_turn_73 (by decide) (fun c1600 => ?_) (fun c1600 => ?_)
  · have hf := oneg c1600 hf
    refine g_bipush X (10 : Int32) dX8_turn_88 (by decide) ?_
    refine g_sub [] (lv' := []) rfl ?_
    exact j_X8_turn_b90 X hr w0 (10 : Int32) y0 hf
  · have hf := opos c1600 hf
    refine g_iconst X (1 : Int32) dX8_turn_76 (by decide) ?_
    refine g_iload_n X dX8_turn_77 0 rfl rfl ?_
    refine g_bipush X (32 : Int32) dX8_turn_78 (by decide) ?_
    refine g_idiv X dX8_turn_80 (by decide) ?_
    refine g_bipush X (20 : Int32) dX8_turn_81 (by decide) ?_
    refine g_irem X dX8_turn_83 (by decide) ?_
    refine g_iadd X dX8_turn_84 ?_
    refine g_goto X 90 dX8_turn_85 (by decide) ?_
    refine g_sub [] (lv' := []) rfl ?_
    exact j_X8_turn_b90 X hr w0 ((1 : Int32) + ((x2 / (32 : Int32)) - (x2 / (32 : Int32)) / (20 : Int32) * (20 : Int32))) y0 hf
def f_X8_turn_b48 (w0 : Fn) (x2 : Int32) (x3 : Int32) (x5 : Int32) (x6 : Int32) : Option (Fn) :=
  if x3 = 0 then if (x2 - x2 / (3 : Int32) * (3 : Int32)) = 0 then f_X8_turn_b70 w0 x2 ((1 : Int32) + (x2 - x2 / (20 : Int32) * (20 : Int32))) else f_X8_turn_b70 w0 x2 (10 : Int32) else if x3 = (1 : Int32) then if (w0 (4 : Int32).toNatClampNeg) ≤ 0 then some w0 else (f_X8_forgetOn w0).bind (fun q1596 => some q1596.2) else if x3 = (2 : Int32) then (f_X8_isCoin w0 (x2 - x2 / (12 : Int32) * (12 : Int32))).bind (fun q1591 => if (b2i q1591) = 0 then some w0 else if ((x2 / (16 : Int32)) - (x2 / (16 : Int32)) / (2 : Int32) * (2 : Int32)) = (1 : Int32) then f_X8_turn_b152 w0 true (x2 - x2 / (12 : Int32) * (12 : Int32)) else f_X8_turn_b152 w0 false (x2 - x2 / (12 : Int32) * (12 : Int32))) else (f_X8_canWeigh w0 x5 x6).bind (fun q1588 => if (b2i q1588) = 0 then some w0 else (f_X8_weighOn w0 x5 x6).bind (fun q1589 => some q1589.2))
set_option maxRecDepth 100000 in
set_option maxHeartbeats 4000000 in
theorem j_X8_turn_b48 {p : Program} {l : Launch} {e : Env} {s : State} {m : MethodId} {args : Array Value} {below : List Frame} {meth : Method} {c : Code} {A : Nat → Prop} {D : va_G} {cy : Nat → ClassId} {ad : (Nat → Nat) × (Nat → Nat)} (X : gK p s m args meth c A D cy ad cX8_turn 7 RX8) (hr : meth.sig.returnType = none) {g0 : Nat} (w0 : Fn) (x2 : Int32) (x3 : Int32) (x5 : Int32) (x6 : Int32) {q : Fn} (hf : f_X8_turn_b48 w0 x2 x3 x5 x6 = some q) : GW p l e rmX8_turn s m args below meth c A D 7 0 0 (MQ below (cmQ D cy A none ([AI cy 107 g0 q] : List va_W).flatten) args s 0 0 A) 48 [(0, .ref g0), (2, .int x2), (3, .int x3), (5, .int x5), (6, .int x6)] [] [AI cy 107 g0 w0] := by
  unfold f_X8_turn_b48 at hf
  refine g_iload_n X dX8_turn_48 2 rfl rfl ?_
  refine g_if_ne X 97 dX8_turn_49 (by decide) (fun c1602 => ?_) (fun c1602 => ?_)
  · have hf := oneg c1602 hf
    refine g_iload_n X dX8_turn_97 2 rfl rfl ?_
    refine g_iconst X (1 : Int32) dX8_turn_98 (by decide) ?_
    refine g_icmp_ne X 116 dX8_turn_99 (by decide) (fun c1598 => ?_) (fun c1598 => ?_)
    · have hf := oneg c1598 hf
      refine g_iload_n X dX8_turn_116 2 rfl rfl ?_
      refine g_iconst X (2 : Int32) dX8_turn_117 (by decide) ?_
      refine g_icmp_ne X 159 dX8_turn_118 (by decide) (fun c1595 => ?_) (fun c1595 => ?_)
      · have hf := oneg c1595 hf
        refine g_aload_n X dX8_turn_159 0 rfl rfl ?_
        refine g_iload X dX8_turn_160 3 rfl ?_
        refine g_iload X dX8_turn_162 4 rfl ?_
        obtain ⟨q1588, hq1588, hf⟩ := obind hf
        refine g_callS (gs' := [AI cy 107 g0 w0]) (rest := []) X dX8_turn_164 (c_X8_canWeigh l D cy ad g0 w0 x5 x6 hq1588) mf_X8_canWeigh ms_X8_canWeigh lkm_X8_123 ⟨(Nat.le_of_ble_eq_true rfl), (Nat.le_of_ble_eq_true rfl), (Nat.le_of_ble_eq_true rfl), (Nat.le_of_ble_eq_true rfl)⟩ [0] _ (by decide : [0].Perm (List.range 1)) rfl (by decide : [0].Perm (List.range 1)) rfl (Nat.le_of_ble_eq_true rfl) rfl ?_
        refine g_if_eq X 179 dX8_turn_167 (by decide) (fun c1590 => ?_) (fun c1590 => ?_)
        · have hf := opos c1590 hf
          have hf := Option.some.inj hf
          subst hf
          exact g_vret X hr dX8_turn_179
        · have hf := oneg c1590 hf
          refine g_aload_n X dX8_turn_170 0 rfl rfl ?_
          refine g_iload X dX8_turn_171 3 rfl ?_
          refine g_iload X dX8_turn_173 4 rfl ?_
          obtain ⟨q1589, hq1589, hf⟩ := obind hf
          refine g_callS (gs' := [AI cy 107 g0 q1589.2]) (rest := []) X dX8_turn_175 (c_X8_weighOn l D cy ad g0 w0 x5 x6 hq1589) mf_X8_weighOn ms_X8_weighOn lkm_X8_126 ⟨(Nat.le_of_ble_eq_true rfl), (Nat.le_of_ble_eq_true rfl), (Nat.le_of_ble_eq_true rfl), (Nat.le_of_ble_eq_true rfl)⟩ [0] _ (by decide : [0].Perm (List.range 1)) rfl (by decide : [0].Perm (List.range 1)) rfl (Nat.le_of_ble_eq_true rfl) rfl ?_
          refine g_pop X dX8_turn_178 rfl ?_
          have hf := Option.some.inj hf
          subst hf
          exact g_vret X hr dX8_turn_179
      · have hf := opos c1595 hf
        refine g_aload_n X dX8_turn_121 0 rfl rfl ?_
        refine g_iload_n X dX8_turn_122 1 rfl rfl ?_
        refine g_bipush X (12 : Int32) dX8_turn_123 (by decide) ?_
        refine g_irem X dX8_turn_125 (by decide) ?_
        obtain ⟨q1591, hq1591, hf⟩ := obind hf
        refine g_callS (gs' := [AI cy 107 g0 w0]) (rest := []) X dX8_turn_126 (c_X8_isCoin l D cy ad g0 w0 (x2 - x2 / (12 : Int32) * (12 : Int32)) hq1591) mf_X8_isCoin ms_X8_isCoin lkm_X8_163 ⟨(Nat.le_of_ble_eq_true rfl), (Nat.le_of_ble_eq_true rfl), (Nat.le_of_ble_eq_true rfl), (Nat.le_of_ble_eq_true rfl)⟩ [0] _ (by decide : [0].Perm (List.range 1)) rfl (by decide : [0].Perm (List.range 1)) rfl (Nat.le_of_ble_eq_true rfl) rfl ?_
        refine g_if_eq X 179 dX8_turn_129 (by decide) (fun c1594 => ?_) (fun c1594 => ?_)
        · have hf := opos c1594 hf
          have hf := Option.some.inj hf
          subst hf
          exact g_vret X hr dX8_turn_179
        · have hf := oneg c1594 hf
          refine g_aload_n X dX8_turn_132 0 rfl rfl ?_
          refine g_iload_n X dX8_turn_133 1 rfl rfl ?_
          refine g_bipush X (12 : Int32) dX8_turn_134 (by decide) ?_
          refine g_irem X dX8_turn_136 (by decide) ?_
          refine g_iload_n X dX8_turn_137 1 rfl rfl ?_
          refine g_bipush X (16 : Int32) dX8_turn_138 (by decide) ?_
          refine g_idiv X dX8_turn_140 (by decide) ?_
          refine g_iconst X (2 : Int32) dX8_turn_141 (by decide) ?_
          refine g_irem X dX8_turn_142 (by decide) ?_
          refine g_iconst X (1 : Int32) dX8_turn_143 (by decide) ?_
          refine g_icmp_ne X 151 dX8_turn_144 (by decide) (fun c1593 => ?_) (fun c1593 => ?_)
          · have hf := oneg c1593 hf
            refine g_iconst X (0 : Int32) dX8_turn_151 (by decide) ?_
            refine g_sub [] (lv' := []) rfl ?_
            exact j_X8_turn_b152 X hr w0 false (x2 - x2 / (12 : Int32) * (12 : Int32)) hf
          · have hf := opos c1593 hf
            refine g_iconst X (1 : Int32) dX8_turn_147 (by decide) ?_
            refine g_goto X 152 dX8_turn_148 (by decide) ?_
            refine g_sub [] (lv' := []) rfl ?_
            exact j_X8_turn_b152 X hr w0 true (x2 - x2 / (12 : Int32) * (12 : Int32)) hf
    · have hf := opos c1598 hf
      refine g_aload_n X dX8_turn_102 0 rfl rfl ?_
      refine g_iconst X (4 : Int32) dX8_turn_103 (by decide) ?_
      refine g_iaload X dX8_turn_104 0 0 rfl rfl (by decide) ?_
      refine g_if_le X 179 dX8_turn_105 (by decide) (fun c1597 => ?_) (fun c1597 => ?_)
      · have hf := opos c1597 hf
        have hf := Option.some.inj hf
        subst hf
        exact g_vret X hr dX8_turn_179
      · have hf := oneg c1597 hf
        refine g_aload_n X dX8_turn_108 0 rfl rfl ?_
        obtain ⟨q1596, hq1596, hf⟩ := obind hf
        refine g_callS (gs' := [AI cy 107 g0 q1596.2]) (rest := []) X dX8_turn_109 (c_X8_forgetOn l D cy ad g0 w0 hq1596) mf_X8_forgetOn ms_X8_forgetOn lkm_X8_190 ⟨(Nat.le_of_ble_eq_true rfl), (Nat.le_of_ble_eq_true rfl), (Nat.le_of_ble_eq_true rfl), (Nat.le_of_ble_eq_true rfl)⟩ [0] _ (by decide : [0].Perm (List.range 1)) rfl (by decide : [0].Perm (List.range 1)) rfl (Nat.le_of_ble_eq_true rfl) rfl ?_
        refine g_pop X dX8_turn_112 rfl ?_
        refine g_goto X 179 dX8_turn_113 (by decide) ?_
        have hf := Option.some.inj hf
        subst hf
        exact g_vret X hr dX8_turn_179
  · have hf := opos c1602 hf
    refine g_aload_n X dX8_turn_52 0 rfl rfl ?_
    refine g_iload_n X dX8_turn_53 1 rfl rfl ?_
    refine g_iconst X (3 : Int32) dX8_turn_54 (by decide) ?_
    refine g_irem X dX8_turn_55 (by decide) ?_
    refine g_if_ne X 68 dX8_turn_56 (by decide) (fun c1601 => ?_) (fun c1601 => ?_)
    · have hf := oneg c1601 hf
      refine g_bipush X (10 : Int32) dX8_turn_68 (by decide) ?_
      refine g_sub [1] (lv' := [(2, .int x2)]) rfl ?_
      exact j_X8_turn_b70 X hr w0 x2 (10 : Int32) hf
    · have hf := opos c1601 hf
      refine g_iconst X (1 : Int32) dX8_turn_59 (by decide) ?_
      refine g_iload_n X dX8_turn_60 1 rfl rfl ?_
      refine g_bipush X (20 : Int32) dX8_turn_61 (by decide) ?_
      refine g_irem X dX8_turn_63 (by decide) ?_
      refine g_iadd X dX8_turn_64 ?_
      refine g_goto X 70 dX8_turn_65 (by decide) ?_
      refine g_sub [1] (lv' := [(2, .int x2)]) rfl ?_
      exact j_X8_turn_b70 X hr w0 x2 ((1 : Int32) + (x2 - x2 / (20 : Int32) * (20 : Int32))) hf
def f_X8_turn_b29 (w0 : Fn) (x2 : Int32) (x3 : Int32) (x4 : Int32) (x5 : Int32) : Option (Fn) :=
  f_X8_turn_b48 w0 x2 x3 x5 ((((x2 / (4096 : Int32)) - (x2 / (4096 : Int32)) / (4096 : Int32) * (4096 : Int32)) &&& x4) &&& (x5 ^^^ (-1 : Int32)))
set_option maxRecDepth 100000 in
set_option maxHeartbeats 4000000 in
theorem j_X8_turn_b29 {p : Program} {l : Launch} {e : Env} {s : State} {m : MethodId} {args : Array Value} {below : List Frame} {meth : Method} {c : Code} {A : Nat → Prop} {D : va_G} {cy : Nat → ClassId} {ad : (Nat → Nat) × (Nat → Nat)} (X : gK p s m args meth c A D cy ad cX8_turn 7 RX8) (hr : meth.sig.returnType = none) {g0 : Nat} (w0 : Fn) (x2 : Int32) (x3 : Int32) (x4 : Int32) (x5 : Int32) {q : Fn} (hf : f_X8_turn_b29 w0 x2 x3 x4 x5 = some q) : GW p l e rmX8_turn s m args below meth c A D 7 0 0 (MQ below (cmQ D cy A none ([AI cy 107 g0 q] : List va_W).flatten) args s 0 0 A) 29 [(0, .ref g0), (2, .int x2), (3, .int x3), (4, .int x4), (5, .int x5)] [] [AI cy 107 g0 w0] := by
  unfold f_X8_turn_b29 at hf
  refine g_iload_n X dX8_turn_29 1 rfl rfl ?_
  refine g_sipush X (4096 : Int32) dX8_turn_30 (by decide) ?_
  refine g_idiv X dX8_turn_33 (by decide) ?_
  refine g_sipush X (4096 : Int32) dX8_turn_34 (by decide) ?_
  refine g_irem X dX8_turn_37 (by decide) ?_
  refine g_iload X dX8_turn_38 3 rfl ?_
  refine g_iand X dX8_turn_40 ?_
  refine g_iload X dX8_turn_41 4 rfl ?_
  refine g_iconst X (-1 : Int32) dX8_turn_43 (by decide) ?_
  refine g_ixor X dX8_turn_44 ?_
  refine g_iand X dX8_turn_45 ?_
  refine g_istore (lv' := [(0, .ref g0), (2, .int x2), (3, .int x3), (4, .int x4), (5, .int x5), (6, .int ((((x2 / (4096 : Int32)) - (x2 / (4096 : Int32)) / (4096 : Int32) * (4096 : Int32)) &&& x4) &&& (x5 ^^^ (-1 : Int32))))]) X dX8_turn_46 [1, 2, 3, 4, 5, 0] (Nat.le_of_ble_eq_true rfl) rfl ?_
  refine g_sub [0, 1, 2, 4, 5] (lv' := [(0, .ref g0), (2, .int x2), (3, .int x3), (5, .int x5), (6, .int ((((x2 / (4096 : Int32)) - (x2 / (4096 : Int32)) / (4096 : Int32) * (4096 : Int32)) &&& x4) &&& (x5 ^^^ (-1 : Int32))))]) rfl ?_
  exact j_X8_turn_b48 X hr w0 x2 x3 x5 ((((x2 / (4096 : Int32)) - (x2 / (4096 : Int32)) / (4096 : Int32) * (4096 : Int32)) &&& x4) &&& (x5 ^^^ (-1 : Int32))) hf
def f_X8_turn (w0 : Fn) (p1 : Int32) : Option (Fn) :=
  f_X8_turn_b29 w0 (p1 / (8 : Int32)) (p1 - p1 / (8 : Int32) * (8 : Int32)) (((1 : Int32) <<< ((w0 (0 : Int32).toNatClampNeg) &&& 31)) - (1 : Int32)) (((p1 / (8 : Int32)) - (p1 / (8 : Int32)) / (4096 : Int32) * (4096 : Int32)) &&& (((1 : Int32) <<< ((w0 (0 : Int32).toNatClampNeg) &&& 31)) - (1 : Int32)))
set_option maxRecDepth 100000 in
set_option maxHeartbeats 4000000 in
theorem c_X8_turn (l : Launch) (D : va_G) (cy : Nat → ClassId) (ad : (Nat → Nat) × (Nat → Nat)) (g0 : Nat) (w0 : Fn) (p1 : Int32) {q : Fn} (hf : f_X8_turn w0 p1 = some q) : CM l yX8_turn cX8_turn 7 none rmX8_turn D cy ad [.ref g0, .int p1] [AI cy 107 g0 w0] none [AI cy 107 g0 q] := by
  refine cm_of (lv0 := [(0, .ref g0), (1, .int p1)]) (by decide) (Nat.le_of_ble_eq_true rfl) rfl ?_
  intro p e s m args below meth c A X hr hn
  have X : gK p s m args meth c A D cy ad cX8_turn 7 RX8 := X
  unfold f_X8_turn at hf
  refine g_iload_n X dX8_turn_0 1 rfl rfl ?_
  refine g_bipush X (8 : Int32) dX8_turn_1 (by decide) ?_
  refine g_idiv X dX8_turn_3 (by decide) ?_
  refine g_istore_n (lv' := [(0, .ref g0), (1, .int p1), (2, .int (p1 / (8 : Int32)))]) X dX8_turn_4 [1, 2, 0] rfl (Nat.le_of_ble_eq_true rfl) rfl ?_
  refine g_iload_n X dX8_turn_5 1 rfl rfl ?_
  refine g_bipush X (8 : Int32) dX8_turn_6 (by decide) ?_
  refine g_irem X dX8_turn_8 (by decide) ?_
  refine g_istore_n (lv' := [(0, .ref g0), (1, .int p1), (2, .int (p1 / (8 : Int32))), (3, .int (p1 - p1 / (8 : Int32) * (8 : Int32)))]) X dX8_turn_9 [1, 2, 3, 0] rfl (Nat.le_of_ble_eq_true rfl) rfl ?_
  refine g_iconst X (1 : Int32) dX8_turn_10 (by decide) ?_
  refine g_aload_n X dX8_turn_11 0 rfl rfl ?_
  refine g_iconst X (0 : Int32) dX8_turn_12 (by decide) ?_
  refine g_iaload X dX8_turn_13 0 0 rfl rfl (by decide) ?_
  refine g_ishl X dX8_turn_14 ?_
  refine g_iconst X (1 : Int32) dX8_turn_15 (by decide) ?_
  refine g_isub X dX8_turn_16 ?_
  refine g_istore (lv' := [(0, .ref g0), (1, .int p1), (2, .int (p1 / (8 : Int32))), (3, .int (p1 - p1 / (8 : Int32) * (8 : Int32))), (4, .int (((1 : Int32) <<< ((w0 (0 : Int32).toNatClampNeg) &&& 31)) - (1 : Int32)))]) X dX8_turn_17 [1, 2, 3, 4, 0] (Nat.le_of_ble_eq_true rfl) rfl ?_
  refine g_iload_n X dX8_turn_19 2 rfl rfl ?_
  refine g_sipush X (4096 : Int32) dX8_turn_20 (by decide) ?_
  refine g_irem X dX8_turn_23 (by decide) ?_
  refine g_iload X dX8_turn_24 4 rfl ?_
  refine g_iand X dX8_turn_26 ?_
  refine g_istore (lv' := [(0, .ref g0), (1, .int p1), (2, .int (p1 / (8 : Int32))), (3, .int (p1 - p1 / (8 : Int32) * (8 : Int32))), (4, .int (((1 : Int32) <<< ((w0 (0 : Int32).toNatClampNeg) &&& 31)) - (1 : Int32))), (5, .int (((p1 / (8 : Int32)) - (p1 / (8 : Int32)) / (4096 : Int32) * (4096 : Int32)) &&& (((1 : Int32) <<< ((w0 (0 : Int32).toNatClampNeg) &&& 31)) - (1 : Int32))))]) X dX8_turn_27 [1, 2, 3, 4, 5, 0] (Nat.le_of_ble_eq_true rfl) rfl ?_
  refine g_sub [0, 2, 3, 4, 5] (lv' := [(0, .ref g0), (2, .int (p1 / (8 : Int32))), (3, .int (p1 - p1 / (8 : Int32) * (8 : Int32))), (4, .int (((1 : Int32) <<< ((w0 (0 : Int32).toNatClampNeg) &&& 31)) - (1 : Int32))), (5, .int (((p1 / (8 : Int32)) - (p1 / (8 : Int32)) / (4096 : Int32) * (4096 : Int32)) &&& (((1 : Int32) <<< ((w0 (0 : Int32).toNatClampNeg) &&& 31)) - (1 : Int32))))]) rfl ?_
  exact j_X8_turn_b29 X hr w0 (p1 / (8 : Int32)) (p1 - p1 / (8 : Int32) * (8 : Int32)) (((1 : Int32) <<< ((w0 (0 : Int32).toNatClampNeg) &&& 31)) - (1 : Int32)) (((p1 / (8 : Int32)) - (p1 / (8 : Int32)) / (4096 : Int32) * (4096 : Int32)) &&& (((1 : Int32) <<< ((w0 (0 : Int32).toNatClampNeg) &&& 31)) - (1 : Int32))) hf
abbrev rmX8_simulate : Room := ({ frames := 6, cells := 0, slots := 0, locals := 137 } : Room)
def f_X8_simulate_B45 (v0 : MOv) (v2 : Fn) (x3 : Int32) (z : Int64 × Int32 × Fn) : Option ((Int64 × Int32 × Fn) ⊕ ((Fn))) :=
  if x3 ≤ z.2.1 then some (.inr ((z.2.2))) else (f_X8_turn z.2.2 (((((z.1 * (6364136223846793005 : Int64)) + (1442695040888963407 : Int64)).toUInt64 >>> ((33 : Int32).toInt64.toUInt64 &&& Int64.toUInt64 63)).toInt64).toInt32)).bind (fun q1616 => some (.inl (((z.1 * (6364136223846793005 : Int64)) + (1442695040888963407 : Int64)), (z.2.1 + (1 : Int32)), q1616)))
set_option maxRecDepth 100000 in
set_option maxHeartbeats 4000000 in
theorem b_X8_simulate_B45 {p : Program} {l : Launch} {e : Env} {s : State} {m : MethodId} {args : Array Value} {below : List Frame} {meth : Method} {c : Code} {A : Nat → Prop} {D : va_G} {cy : Nat → ClassId} {ad : (Nat → Nat) × (Nat → Nat)} {Q : State → Prop} (X : gK p s m args meth c A D cy ad cX8_simulate 7 RX8) (hr : meth.sig.returnType = (some .int)) {h0 h1 h2 h3 h4 h5 h6 h7 h8 : Nat} (v0 : MOv) (v2 : Fn) (x3 : Int32) (z : Int64 × Int32 × Fn) {q : (Int64 × Int32 × Fn) ⊕ ((Fn))} (hf : f_X8_simulate_B45 v0 v2 x3 z = some q) (K1 : ∀ s' : Int64 × Int32 × Fn, q = .inl s' → GW p l e rmX8_simulate s m args below meth c A D 7 0 0 Q 45 [(0, .ref h0), (3, .int x3), (4, .long s'.1), (6, .int s'.2.1)] [] [MO h0 h1 h2 h3 h4 h5 h6 h7 h8 v0, AI cy 107 h2 v2, AI cy 107 h3 s'.2.2]) (K2 : ∀ e' : Fn, q = .inr (e') → GW p l e rmX8_simulate s m args below meth c A D 7 0 0 Q 82 [(0, .ref h0)] [] [MO h0 h1 h2 h3 h4 h5 h6 h7 h8 v0, AI cy 107 h2 v2, AI cy 107 h3 e']) : GW p l e rmX8_simulate s m args below meth c A D 7 0 0 Q 45 [(0, .ref h0), (3, .int x3), (4, .long z.1), (6, .int z.2.1)] [] [MO h0 h1 h2 h3 h4 h5 h6 h7 h8 v0, AI cy 107 h2 v2, AI cy 107 h3 z.2.2] := by
  unfold f_X8_simulate_B45 at hf
  refine g_iload X dX8_simulate_45 3 rfl ?_
  refine g_iload_n X dX8_simulate_47 1 rfl rfl ?_
  refine g_icmp_ge X 82 dX8_simulate_48 (by decide) (fun c1617 => ?_) (fun c1617 => ?_)
  · have hf := opos c1617 hf
    refine g_sub [0] (lv' := [(0, .ref h0)]) rfl ?_
    exact K2 (z.2.2) (Option.some.inj hf).symm
  · have hf := oneg c1617 hf
    refine g_lload X dX8_simulate_51 2 rfl ?_
    refine g_ldc2 X lkl_X8_212 dX8_simulate_53 ?_
    refine g_lmul X dX8_simulate_56 ?_
    refine g_ldc2 X lkl_X8_214 dX8_simulate_57 ?_
    refine g_ladd X dX8_simulate_60 ?_
    refine g_lstore (lv' := [(0, .ref h0), (3, .int x3), (4, .long ((z.1 * (6364136223846793005 : Int64)) + (1442695040888963407 : Int64))), (6, .int z.2.1)]) X dX8_simulate_61 [1, 2, 0, 3] (Nat.le_of_ble_eq_true rfl) rfl ?_
    refine g_aload_n X dX8_simulate_63 0 rfl rfl ?_
    refine g_get X dX8_simulate_64 ck_X8 0 0 4 rfl rfl (Nat.le_of_ble_eq_true rfl) lkf_X8_16 rfl ?_
    refine g_lload X dX8_simulate_67 2 rfl ?_
    refine g_bipush X (33 : Int32) dX8_simulate_69 (by decide) ?_
    refine g_lushr X dX8_simulate_71 ?_
    refine g_l2i X dX8_simulate_72 ?_
    obtain ⟨q1616, hq1616, hf⟩ := obind hf
    refine g_callS (gs' := [MO h0 h1 h2 h3 h4 h5 h6 h7 h8 v0, AI cy 107 h2 v2, AI cy 107 h3 q1616]) (rest := []) X dX8_simulate_73 (c_X8_turn l D cy ad h3 z.2.2 (((((z.1 * (6364136223846793005 : Int64)) + (1442695040888963407 : Int64)).toUInt64 >>> ((33 : Int32).toInt64.toUInt64 &&& Int64.toUInt64 63)).toInt64).toInt32) hq1616) mf_X8_turn ms_X8_turn lkm_X8_216 ⟨(Nat.le_of_ble_eq_true rfl), (Nat.le_of_ble_eq_true rfl), (Nat.le_of_ble_eq_true rfl), (Nat.le_of_ble_eq_true rfl)⟩ [2, 0, 1] _ (by decide : [2, 0, 1].Perm (List.range 3)) rfl (by decide : [2, 0, 1].Perm (List.range 3)) rfl (Nat.le_of_ble_eq_true rfl) rfl ?_
    refine g_iinc (lv' := [(0, .ref h0), (3, .int x3), (4, .long ((z.1 * (6364136223846793005 : Int64)) + (1442695040888963407 : Int64))), (6, .int (z.2.1 + (1 : Int32)))]) (v := (1 : Int32)) X dX8_simulate_76 3 rfl (by decide) [1, 2, 3, 0] (Nat.le_of_ble_eq_true rfl) rfl ?_
    refine g_goto X 45 dX8_simulate_79 (by decide) ?_
    exact K1 (((z.1 * (6364136223846793005 : Int64)) + (1442695040888963407 : Int64)), (z.2.1 + (1 : Int32)), q1616) (Option.some.inj hf).symm
set_option maxRecDepth 100000 in
set_option maxHeartbeats 4000000 in
theorem w_X8_simulate_B45 {p : Program} {l : Launch} {e : Env} {s : State} {m : MethodId} {args : Array Value} {below : List Frame} {meth : Method} {c : Code} {A : Nat → Prop} {D : va_G} {cy : Nat → ClassId} {ad : (Nat → Nat) × (Nat → Nat)} {Q : State → Prop} (X : gK p s m args meth c A D cy ad cX8_simulate 7 RX8) (hr : meth.sig.returnType = (some .int)) {h0 h1 h2 h3 h4 h5 h6 h7 h8 : Nat} (v0 : MOv) (v2 : Fn) (x3 : Int32) {n : Nat} {z : Int64 × Int32 × Fn} {q : (Fn)} (hf : itl (f_X8_simulate_B45 v0 v2 x3) n z = some q) (K2 : GW p l e rmX8_simulate s m args below meth c A D 7 0 0 Q 82 [(0, .ref h0)] [] [MO h0 h1 h2 h3 h4 h5 h6 h7 h8 v0, AI cy 107 h2 v2, AI cy 107 h3 q]) : GW p l e rmX8_simulate s m args below meth c A D 7 0 0 Q 45 [(0, .ref h0), (3, .int x3), (4, .long z.1), (6, .int z.2.1)] [] [MO h0 h1 h2 h3 h4 h5 h6 h7 h8 v0, AI cy 107 h2 v2, AI cy 107 h3 z.2.2] :=
  itl_ind (f := f_X8_simulate_B45 v0 v2 x3) (I := fun z => GW p l e rmX8_simulate s m args below meth c A D 7 0 0 Q 45 [(0, .ref h0), (3, .int x3), (4, .long z.1), (6, .int z.2.1)] [] [MO h0 h1 h2 h3 h4 h5 h6 h7 h8 v0, AI cy 107 h2 v2, AI cy 107 h3 z.2.2]) (J := (fun q => GW p l e rmX8_simulate s m args below meth c A D 7 0 0 Q 82 [(0, .ref h0)] [] [MO h0 h1 h2 h3 h4 h5 h6 h7 h8 v0, AI cy 107 h2 v2, AI cy 107 h3 q])) (fun z x h k1 k2 => b_X8_simulate_B45 X hr v0 v2 x3 z h (fun s' hs => k1 s' hs) (fun e' he => k2 e' he)) n z q hf K2
def f_X8_simulate_b18 (v0 : MOv) (v2 : Fn) (v3 : Fn) (x1 : Int64) (x3 : Int32) (y0 : Bool) : Option (Int32 × MOv × Fn) :=
  (f_X8_refused v0 (b2i y0)).bind (fun q1614 => if (b2i q1614.1) = 0 then (f_X8_copyState 107 107 v2 v3 (0 : Int32) (0 : Int32)).bind (fun q1615 => (itl (f_X8_simulate_B45 q1614.2 v2 x3) FU (x1, (0 : Int32), q1615)).bind (fun q1618 => (f_X8_leftOf q1618).bind (fun q1619 => some ((((1000 : Int32) * (q1618 (4 : Int32).toNatClampNeg)) + q1619), q1614.2, q1618)))) else some ((0 : Int32), q1614.2, v3))
set_option maxRecDepth 100000 in
set_option maxHeartbeats 4000000 in
theorem j_X8_simulate_b18 {p : Program} {l : Launch} {e : Env} {s : State} {m : MethodId} {args : Array Value} {below : List Frame} {meth : Method} {c : Code} {A : Nat → Prop} {D : va_G} {cy : Nat → ClassId} {ad : (Nat → Nat) × (Nat → Nat)} (X : gK p s m args meth c A D cy ad cX8_simulate 7 RX8) (hr : meth.sig.returnType = (some .int)) {h0 h1 h2 h3 h4 h5 h6 h7 h8 : Nat} (v0 : MOv) (v2 : Fn) (v3 : Fn) (x1 : Int64) (x3 : Int32) (y0 : Bool) {q : Int32 × MOv × Fn} (hf : f_X8_simulate_b18 v0 v2 v3 x1 x3 y0 = some q) : GW p l e rmX8_simulate s m args below meth c A D 7 0 0 (MQ below (cmQ D cy A (some (.int q.1)) ([MO h0 h1 h2 h3 h4 h5 h6 h7 h8 q.2.1, AI cy 107 h2 v2, AI cy 107 h3 q.2.2] : List va_W).flatten) args s 0 0 A) 18 [(0, .ref h0), (1, .long x1), (3, .int x3)] [.int (b2i y0), .ref h0] [MO h0 h1 h2 h3 h4 h5 h6 h7 h8 v0, AI cy 107 h2 v2, AI cy 107 h3 v3] := by
  unfold f_X8_simulate_b18 at hf
  obtain ⟨q1614, hq1614, hf⟩ := obind hf
  refine g_callV (gs' := [MO h0 h1 h2 h3 h4 h5 h6 h7 h8 q1614.2, AI cy 107 h2 v2, AI cy 107 h3 v3]) (rest := []) X dX8_simulate_18 (c_X8_refused l D cy ad h0 h1 h2 h3 h4 h5 h6 h7 h8 v0 (b2i y0) hq1614) mf_X8_refused mv_X8_refused lkm_X8_102 ⟨(Nat.le_of_ble_eq_true rfl), (Nat.le_of_ble_eq_true rfl), (Nat.le_of_ble_eq_true rfl), (Nat.le_of_ble_eq_true rfl)⟩ 0 0 rfl rfl rfl rfl [0, 1, 2] _ (by decide : [0, 1, 2].Perm (List.range 3)) rfl (by decide : [0, 1, 2].Perm (List.range 3)) rfl (Nat.le_of_ble_eq_true rfl) rfl ?_
  refine g_if_eq X 26 dX8_simulate_21 (by decide) (fun c1620 => ?_) (fun c1620 => ?_)
  · have hf := opos c1620 hf
    refine g_aload_n X dX8_simulate_26 0 rfl rfl ?_
    refine g_get X dX8_simulate_27 ck_X8 0 0 3 rfl rfl (Nat.le_of_ble_eq_true rfl) lkf_X8_13 rfl ?_
    refine g_iconst X (0 : Int32) dX8_simulate_30 (by decide) ?_
    refine g_aload_n X dX8_simulate_31 0 rfl rfl ?_
    refine g_get X dX8_simulate_32 ck_X8 0 0 4 rfl rfl (Nat.le_of_ble_eq_true rfl) lkf_X8_16 rfl ?_
    refine g_iconst X (0 : Int32) dX8_simulate_35 (by decide) ?_
    obtain ⟨q1615, hq1615, hf⟩ := obind hf
    refine g_callS (gs' := [MO h0 h1 h2 h3 h4 h5 h6 h7 h8 q1614.2, AI cy 107 h2 v2, AI cy 107 h3 q1615]) (rest := []) X dX8_simulate_36 (c_X8_copyState l D cy ad h2 h3 107 107 v2 v3 (0 : Int32) (0 : Int32) hq1615) mf_X8_copyState ms_X8_copyState lkm_X8_154 ⟨(Nat.le_of_ble_eq_true rfl), (Nat.le_of_ble_eq_true rfl), (Nat.le_of_ble_eq_true rfl), (Nat.le_of_ble_eq_true rfl)⟩ [1, 2, 0] _ (by decide : [1, 2, 0].Perm (List.range 3)) rfl (by decide : [1, 2, 0].Perm (List.range 3)) rfl (Nat.le_of_ble_eq_true rfl) rfl ?_
    refine g_lload_n X dX8_simulate_39 1 rfl rfl ?_
    refine g_lstore (lv' := [(0, .ref h0), (1, .long x1), (3, .int x3), (4, .long x1)]) X dX8_simulate_40 [1, 2, 3, 0] (Nat.le_of_ble_eq_true rfl) rfl ?_
    refine g_iconst X (0 : Int32) dX8_simulate_42 (by decide) ?_
    refine g_istore (lv' := [(0, .ref h0), (1, .long x1), (3, .int x3), (4, .long x1), (6, .int (0 : Int32))]) X dX8_simulate_43 [1, 2, 3, 4, 0] (Nat.le_of_ble_eq_true rfl) rfl ?_
    obtain ⟨q1618, hq1618, hf⟩ := obind hf
    refine g_sub [0, 2, 3, 4] (lv' := [(0, .ref h0), (3, .int x3), (4, .long x1), (6, .int (0 : Int32))]) rfl ?_
    refine w_X8_simulate_B45 X hr q1614.2 v2 x3 hq1618 ?_
    refine g_sipush X (1000 : Int32) dX8_simulate_82 (by decide) ?_
    refine g_aload_n X dX8_simulate_85 0 rfl rfl ?_
    refine g_get X dX8_simulate_86 ck_X8 0 0 4 rfl rfl (Nat.le_of_ble_eq_true rfl) lkf_X8_16 rfl ?_
    refine g_iconst X (4 : Int32) dX8_simulate_89 (by decide) ?_
    refine g_iaload X dX8_simulate_90 2 0 rfl rfl (by decide) ?_
    refine g_imul X dX8_simulate_91 ?_
    refine g_aload_n X dX8_simulate_92 0 rfl rfl ?_
    refine g_get X dX8_simulate_93 ck_X8 0 0 4 rfl rfl (Nat.le_of_ble_eq_true rfl) lkf_X8_16 rfl ?_
    obtain ⟨q1619, hq1619, hf⟩ := obind hf
    refine g_callS (gs' := [MO h0 h1 h2 h3 h4 h5 h6 h7 h8 q1614.2, AI cy 107 h2 v2, AI cy 107 h3 q1618]) (rest := [.int ((1000 : Int32) * (q1618 (4 : Int32).toNatClampNeg))]) X dX8_simulate_96 (c_X8_leftOf l D cy ad h3 q1618 hq1619) mf_X8_leftOf ms_X8_leftOf lkm_X8_86 ⟨(Nat.le_of_ble_eq_true rfl), (Nat.le_of_ble_eq_true rfl), (Nat.le_of_ble_eq_true rfl), (Nat.le_of_ble_eq_true rfl)⟩ [2, 0, 1] _ (by decide : [2, 0, 1].Perm (List.range 3)) rfl (by decide : [2, 0, 1].Perm (List.range 3)) rfl (Nat.le_of_ble_eq_true rfl) rfl ?_
    refine g_iadd X dX8_simulate_99 ?_
    have hf := Option.some.inj hf
    subst hf
    exact g_iret X hr dX8_simulate_100
  · have hf := oneg c1620 hf
    refine g_iconst X (0 : Int32) dX8_simulate_24 (by decide) ?_
    have hf := Option.some.inj hf
    subst hf
    exact g_iret X hr dX8_simulate_25
def f_X8_simulate (v0 : MOv) (v2 : Fn) (v3 : Fn) (p1 : Int64) (p2 : Int32) : Option (Int32 × MOv × Fn) :=
  (f_X8_in (p2.toInt64) (1 : Int64) (60 : Int64)).bind (fun q1613 => if (b2i q1613) = 0 then f_X8_simulate_b18 v0 v2 v3 p1 p2 true else f_X8_simulate_b18 v0 v2 v3 p1 p2 false)
set_option maxRecDepth 100000 in
set_option maxHeartbeats 4000000 in
theorem c_X8_simulate (l : Launch) (D : va_G) (cy : Nat → ClassId) (ad : (Nat → Nat) × (Nat → Nat)) (h0 : Nat) (h1 : Nat) (h2 : Nat) (h3 : Nat) (h4 : Nat) (h5 : Nat) (h6 : Nat) (h7 : Nat) (h8 : Nat) (v0 : MOv) (v2 : Fn) (v3 : Fn) (p1 : Int64) (p2 : Int32) {q : Int32 × MOv × Fn} (hf : f_X8_simulate v0 v2 v3 p1 p2 = some q) : CM l yX8_simulate cX8_simulate 7 (some .int) rmX8_simulate D cy ad [.ref h0, .long p1, .int p2] [MO h0 h1 h2 h3 h4 h5 h6 h7 h8 v0, AI cy 107 h2 v2, AI cy 107 h3 v3] (some (.int q.1)) [MO h0 h1 h2 h3 h4 h5 h6 h7 h8 q.2.1, AI cy 107 h2 v2, AI cy 107 h3 q.2.2] := by
  refine cm_of (lv0 := [(0, .ref h0), (1, .long p1), (3, .int p2)]) (by decide) (Nat.le_of_ble_eq_true rfl) rfl ?_
  intro p e s m args below meth c A X hr hn
  have X : gK p s m args meth c A D cy ad cX8_simulate 7 RX8 := X
  unfold f_X8_simulate at hf
  refine g_aload_n X dX8_simulate_0 0 rfl rfl ?_
  refine g_iload_n X dX8_simulate_1 2 rfl rfl ?_
  refine g_i2l X dX8_simulate_2 ?_
  refine g_lconst X (1 : Int64) dX8_simulate_3 (by decide) ?_
  refine g_ldc2 X lkl_X8_210 dX8_simulate_4 ?_
  obtain ⟨q1613, hq1613, hf⟩ := obind hf
  refine g_callS (gs' := [MO h0 h1 h2 h3 h4 h5 h6 h7 h8 v0, AI cy 107 h2 v2, AI cy 107 h3 v3]) (rest := [.ref h0]) X dX8_simulate_7 (c_X8_in l D cy ad (p2.toInt64) (1 : Int64) (60 : Int64) hq1613) mf_X8_in ms_X8_in lkm_X8_43 ⟨(Nat.le_of_ble_eq_true rfl), (Nat.le_of_ble_eq_true rfl), (Nat.le_of_ble_eq_true rfl), (Nat.le_of_ble_eq_true rfl)⟩ [0, 1, 2] _ (by decide : [0, 1, 2].Perm (List.range 3)) rfl (by decide : [0, 1, 2].Perm (List.range 3)) rfl (Nat.le_of_ble_eq_true rfl) rfl ?_
  refine g_if_eq X 17 dX8_simulate_10 (by decide) (fun c1621 => ?_) (fun c1621 => ?_)
  · have hf := opos c1621 hf
    refine g_iconst X (1 : Int32) dX8_simulate_17 (by decide) ?_
    exact j_X8_simulate_b18 X hr v0 v2 v3 p1 p2 true hf
  · have hf := oneg c1621 hf
    refine g_iconst X (0 : Int32) dX8_simulate_13 (by decide) ?_
    refine g_goto X 18 dX8_simulate_14 (by decide) ?_
    exact j_X8_simulate_b18 X hr v0 v2 v3 p1 p2 false hf
abbrev rmX8_save : Room := ({ frames := 6, cells := 0, slots := 0, locals := 137 } : Room)
def f_X8_save_b16 (v0 : MOv) (v2 : Fn) (v5 : Fn) (v6 : Fn) (x1 : Int32) (y0 : Bool) : Option (Int32 × MOv × Fn × Fn) :=
  (f_X8_refused v0 (b2i y0)).bind (fun q1633 => if (b2i q1633.1) = 0 then (f_X8_copyState 107 214 v2 v5 (0 : Int32) ((107 : Int32) * x1)).bind (fun q1634 => if x1 < 0 ∨ 2 ≤ x1.toNatClampNeg then none else (f_X8_leftOf v2).bind (fun q1636 => some (q1636, q1633.2, q1634, (upd v6 x1.toNatClampNeg (vp_nar .boolean (1 : Int32)))))) else some ((0 : Int32), q1633.2, v5, v6))
set_option maxRecDepth 100000 in
set_option maxHeartbeats 4000000 in
theorem j_X8_save_b16 {p : Program} {l : Launch} {e : Env} {s : State} {m : MethodId} {args : Array Value} {below : List Frame} {meth : Method} {c : Code} {A : Nat → Prop} {D : va_G} {cy : Nat → ClassId} {ad : (Nat → Nat) × (Nat → Nat)} (X : gK p s m args meth c A D cy ad cX8_save 2 RX8) (hr : meth.sig.returnType = (some .int)) {h0 h1 h2 h3 h4 h5 h6 h7 h8 : Nat} (v0 : MOv) (v2 : Fn) (v5 : Fn) (v6 : Fn) (x1 : Int32) (y0 : Bool) {q : Int32 × MOv × Fn × Fn} (hf : f_X8_save_b16 v0 v2 v5 v6 x1 y0 = some q) : GW p l e rmX8_save s m args below meth c A D 2 0 0 (MQ below (cmQ D cy A (some (.int q.1)) ([MO h0 h1 h2 h3 h4 h5 h6 h7 h8 q.2.1, AI cy 107 h2 v2, AI cy 214 h5 q.2.2.1, AZ cy 2 h6 q.2.2.2] : List va_W).flatten) args s 0 0 A) 16 [(0, .ref h0), (1, .int x1)] [.int (b2i y0), .ref h0] [MO h0 h1 h2 h3 h4 h5 h6 h7 h8 v0, AI cy 107 h2 v2, AI cy 214 h5 v5, AZ cy 2 h6 v6] := by
  unfold f_X8_save_b16 at hf
  obtain ⟨q1633, hq1633, hf⟩ := obind hf
  refine g_callV (gs' := [MO h0 h1 h2 h3 h4 h5 h6 h7 h8 q1633.2, AI cy 107 h2 v2, AI cy 214 h5 v5, AZ cy 2 h6 v6]) (rest := []) X dX8_save_16 (c_X8_refused l D cy ad h0 h1 h2 h3 h4 h5 h6 h7 h8 v0 (b2i y0) hq1633) mf_X8_refused mv_X8_refused lkm_X8_102 ⟨(Nat.le_of_ble_eq_true rfl), (Nat.le_of_ble_eq_true rfl), (Nat.le_of_ble_eq_true rfl), (Nat.le_of_ble_eq_true rfl)⟩ 0 0 rfl rfl rfl rfl [0, 1, 2, 3] _ (by decide : [0, 1, 2, 3].Perm (List.range 4)) rfl (by decide : [0, 1, 2, 3].Perm (List.range 4)) rfl (Nat.le_of_ble_eq_true rfl) rfl ?_
  refine g_if_eq X 24 dX8_save_19 (by decide) (fun c1637 => ?_) (fun c1637 => ?_)
  · have hf := opos c1637 hf
    refine g_aload_n X dX8_save_24 0 rfl rfl ?_
    refine g_get X dX8_save_25 ck_X8 0 0 3 rfl rfl (Nat.le_of_ble_eq_true rfl) lkf_X8_13 rfl ?_
    refine g_iconst X (0 : Int32) dX8_save_28 (by decide) ?_
    refine g_aload_n X dX8_save_29 0 rfl rfl ?_
    refine g_get X dX8_save_30 ck_X8 0 0 7 rfl rfl (Nat.le_of_ble_eq_true rfl) lkf_X8_22 rfl ?_
    refine g_bipush X (107 : Int32) dX8_save_33 (by decide) ?_
    refine g_iload_n X dX8_save_35 1 rfl rfl ?_
    refine g_imul X dX8_save_36 ?_
    obtain ⟨q1634, hq1634, hf⟩ := obind hf
    refine g_callS (gs' := [MO h0 h1 h2 h3 h4 h5 h6 h7 h8 q1633.2, AI cy 107 h2 v2, AI cy 214 h5 q1634, AZ cy 2 h6 v6]) (rest := []) X dX8_save_37 (c_X8_copyState l D cy ad h2 h5 107 214 v2 v5 (0 : Int32) ((107 : Int32) * x1) hq1634) mf_X8_copyState ms_X8_copyState lkm_X8_154 ⟨(Nat.le_of_ble_eq_true rfl), (Nat.le_of_ble_eq_true rfl), (Nat.le_of_ble_eq_true rfl), (Nat.le_of_ble_eq_true rfl)⟩ [1, 2, 0, 3] _ (by decide : [1, 2, 0, 3].Perm (List.range 4)) rfl (by decide : [1, 2, 0, 3].Perm (List.range 4)) rfl (Nat.le_of_ble_eq_true rfl) rfl ?_
    refine g_aload_n X dX8_save_40 0 rfl rfl ?_
    refine g_get X dX8_save_41 ck_X8 0 0 8 rfl rfl (Nat.le_of_ble_eq_true rfl) lkf_X8_25 rfl ?_
    refine g_iload_n X dX8_save_44 1 rfl rfl ?_
    refine g_iconst X (1 : Int32) dX8_save_45 (by decide) ?_
    obtain ⟨n1635, hf⟩ := oguard hf
    refine g_bastore (gs' := [MO h0 h1 h2 h3 h4 h5 h6 h7 h8 q1633.2, AI cy 107 h2 v2, AI cy 214 h5 q1634, AZ cy 2 h6 (upd v6 x1.toNatClampNeg (vp_nar .boolean (1 : Int32)))]) X dX8_save_46 3 0 rfl rfl n1635 rfl ?_
    refine g_aload_n X dX8_save_47 0 rfl rfl ?_
    refine g_get X dX8_save_48 ck_X8 0 0 3 rfl rfl (Nat.le_of_ble_eq_true rfl) lkf_X8_13 rfl ?_
    obtain ⟨q1636, hq1636, hf⟩ := obind hf
    refine g_callS (gs' := [MO h0 h1 h2 h3 h4 h5 h6 h7 h8 q1633.2, AI cy 107 h2 v2, AI cy 214 h5 q1634, AZ cy 2 h6 (upd v6 x1.toNatClampNeg (vp_nar .boolean (1 : Int32)))]) (rest := []) X dX8_save_51 (c_X8_leftOf l D cy ad h2 v2 hq1636) mf_X8_leftOf ms_X8_leftOf lkm_X8_86 ⟨(Nat.le_of_ble_eq_true rfl), (Nat.le_of_ble_eq_true rfl), (Nat.le_of_ble_eq_true rfl), (Nat.le_of_ble_eq_true rfl)⟩ [1, 0, 2, 3] _ (by decide : [1, 0, 2, 3].Perm (List.range 4)) rfl (by decide : [1, 0, 2, 3].Perm (List.range 4)) rfl (Nat.le_of_ble_eq_true rfl) rfl ?_
    have hf := Option.some.inj hf
    subst hf
    exact g_iret X hr dX8_save_54
  · have hf := oneg c1637 hf
    refine g_iconst X (0 : Int32) dX8_save_22 (by decide) ?_
    have hf := Option.some.inj hf
    subst hf
    exact g_iret X hr dX8_save_23
def f_X8_save (v0 : MOv) (v2 : Fn) (v5 : Fn) (v6 : Fn) (p1 : Int32) : Option (Int32 × MOv × Fn × Fn) :=
  (f_X8_in (p1.toInt64) (0 : Int64) (1 : Int64)).bind (fun q1632 => if (b2i q1632) = 0 then f_X8_save_b16 v0 v2 v5 v6 p1 true else f_X8_save_b16 v0 v2 v5 v6 p1 false)
set_option maxRecDepth 100000 in
set_option maxHeartbeats 4000000 in
theorem c_X8_save (l : Launch) (D : va_G) (cy : Nat → ClassId) (ad : (Nat → Nat) × (Nat → Nat)) (h0 : Nat) (h1 : Nat) (h2 : Nat) (h3 : Nat) (h4 : Nat) (h5 : Nat) (h6 : Nat) (h7 : Nat) (h8 : Nat) (v0 : MOv) (v2 : Fn) (v5 : Fn) (v6 : Fn) (p1 : Int32) {q : Int32 × MOv × Fn × Fn} (hf : f_X8_save v0 v2 v5 v6 p1 = some q) : CM l yX8_save cX8_save 2 (some .int) rmX8_save D cy ad [.ref h0, .int p1] [MO h0 h1 h2 h3 h4 h5 h6 h7 h8 v0, AI cy 107 h2 v2, AI cy 214 h5 v5, AZ cy 2 h6 v6] (some (.int q.1)) [MO h0 h1 h2 h3 h4 h5 h6 h7 h8 q.2.1, AI cy 107 h2 v2, AI cy 214 h5 q.2.2.1, AZ cy 2 h6 q.2.2.2] := by
  refine cm_of (lv0 := [(0, .ref h0), (1, .int p1)]) (by decide) (Nat.le_of_ble_eq_true rfl) rfl ?_
  intro p e s m args below meth c A X hr hn
  have X : gK p s m args meth c A D cy ad cX8_save 2 RX8 := X
  unfold f_X8_save at hf
  refine g_aload_n X dX8_save_0 0 rfl rfl ?_
  refine g_iload_n X dX8_save_1 1 rfl rfl ?_
  refine g_i2l X dX8_save_2 ?_
  refine g_lconst X (0 : Int64) dX8_save_3 (by decide) ?_
  refine g_lconst X (1 : Int64) dX8_save_4 (by decide) ?_
  obtain ⟨q1632, hq1632, hf⟩ := obind hf
  refine g_callS (gs' := [MO h0 h1 h2 h3 h4 h5 h6 h7 h8 v0, AI cy 107 h2 v2, AI cy 214 h5 v5, AZ cy 2 h6 v6]) (rest := [.ref h0]) X dX8_save_5 (c_X8_in l D cy ad (p1.toInt64) (0 : Int64) (1 : Int64) hq1632) mf_X8_in ms_X8_in lkm_X8_43 ⟨(Nat.le_of_ble_eq_true rfl), (Nat.le_of_ble_eq_true rfl), (Nat.le_of_ble_eq_true rfl), (Nat.le_of_ble_eq_true rfl)⟩ [0, 1, 2, 3] _ (by decide : [0, 1, 2, 3].Perm (List.range 4)) rfl (by decide : [0, 1, 2, 3].Perm (List.range 4)) rfl (Nat.le_of_ble_eq_true rfl) rfl ?_
  refine g_if_eq X 15 dX8_save_8 (by decide) (fun c1638 => ?_) (fun c1638 => ?_)
  · have hf := opos c1638 hf
    refine g_iconst X (1 : Int32) dX8_save_15 (by decide) ?_
    exact j_X8_save_b16 X hr v0 v2 v5 v6 p1 true hf
  · have hf := oneg c1638 hf
    refine g_iconst X (0 : Int32) dX8_save_11 (by decide) ?_
    refine g_goto X 16 dX8_save_12 (by decide) ?_
    exact j_X8_save_b16 X hr v0 v2 v5 v6 p1 false hf
abbrev rmX8_restore : Room := ({ frames := 6, cells := 0, slots := 0, locals := 137 } : Room)
def f_X8_restore_b29 (v0 : MOv) (v2 : Fn) (v5 : Fn) (v6 : Fn) (x1 : Int32) (y0 : Int32) : Option (Int32 × MOv × Fn) :=
  (f_X8_refused v0 y0).bind (fun q1651 => if (b2i q1651.1) = 0 then (f_X8_copyState 214 107 v5 v2 ((107 : Int32) * x1) (0 : Int32)).bind (fun q1652 => (f_X8_leftOf q1652).bind (fun q1653 => some (q1653, (q1651.2.1, q1651.2.2.1, (0 : Int32), q1651.2.2.2.2.1, q1651.2.2.2.2.2.1, q1651.2.2.2.2.2.2), q1652))) else some ((0 : Int32), q1651.2, v2))
set_option maxRecDepth 100000 in
set_option maxHeartbeats 4000000 in
theorem j_X8_restore_b29 {p : Program} {l : Launch} {e : Env} {s : State} {m : MethodId} {args : Array Value} {below : List Frame} {meth : Method} {c : Code} {A : Nat → Prop} {D : va_G} {cy : Nat → ClassId} {ad : (Nat → Nat) × (Nat → Nat)} (X : gK p s m args meth c A D cy ad cX8_restore 2 RX8) (hr : meth.sig.returnType = (some .int)) {h0 h1 h2 h3 h4 h5 h6 h7 h8 : Nat} (v0 : MOv) (v2 : Fn) (v5 : Fn) (v6 : Fn) (x1 : Int32) (y0 : Int32) {q : Int32 × MOv × Fn} (hf : f_X8_restore_b29 v0 v2 v5 v6 x1 y0 = some q) : GW p l e rmX8_restore s m args below meth c A D 2 0 0 (MQ below (cmQ D cy A (some (.int q.1)) ([MO h0 h1 h2 h3 h4 h5 h6 h7 h8 q.2.1, AI cy 107 h2 q.2.2, AI cy 214 h5 v5, AZ cy 2 h6 v6] : List va_W).flatten) args s 0 0 A) 29 [(0, .ref h0), (1, .int x1)] [.int y0, .ref h0] [MO h0 h1 h2 h3 h4 h5 h6 h7 h8 v0, AI cy 107 h2 v2, AI cy 214 h5 v5, AZ cy 2 h6 v6] := by
  unfold f_X8_restore_b29 at hf
  obtain ⟨q1651, hq1651, hf⟩ := obind hf
  refine g_callV (gs' := [MO h0 h1 h2 h3 h4 h5 h6 h7 h8 q1651.2, AI cy 107 h2 v2, AI cy 214 h5 v5, AZ cy 2 h6 v6]) (rest := []) X dX8_restore_29 (c_X8_refused l D cy ad h0 h1 h2 h3 h4 h5 h6 h7 h8 v0 y0 hq1651) mf_X8_refused mv_X8_refused lkm_X8_102 ⟨(Nat.le_of_ble_eq_true rfl), (Nat.le_of_ble_eq_true rfl), (Nat.le_of_ble_eq_true rfl), (Nat.le_of_ble_eq_true rfl)⟩ 0 0 rfl rfl rfl rfl [0, 1, 2, 3] _ (by decide : [0, 1, 2, 3].Perm (List.range 4)) rfl (by decide : [0, 1, 2, 3].Perm (List.range 4)) rfl (Nat.le_of_ble_eq_true rfl) rfl ?_
  refine g_if_eq X 37 dX8_restore_32 (by decide) (fun c1654 => ?_) (fun c1654 => ?_)
  · have hf := opos c1654 hf
    refine g_aload_n X dX8_restore_37 0 rfl rfl ?_
    refine g_get X dX8_restore_38 ck_X8 0 0 7 rfl rfl (Nat.le_of_ble_eq_true rfl) lkf_X8_22 rfl ?_
    refine g_bipush X (107 : Int32) dX8_restore_41 (by decide) ?_
    refine g_iload_n X dX8_restore_43 1 rfl rfl ?_
    refine g_imul X dX8_restore_44 ?_
    refine g_aload_n X dX8_restore_45 0 rfl rfl ?_
    refine g_get X dX8_restore_46 ck_X8 0 0 3 rfl rfl (Nat.le_of_ble_eq_true rfl) lkf_X8_13 rfl ?_
    refine g_iconst X (0 : Int32) dX8_restore_49 (by decide) ?_
    obtain ⟨q1652, hq1652, hf⟩ := obind hf
    refine g_callS (gs' := [MO h0 h1 h2 h3 h4 h5 h6 h7 h8 q1651.2, AI cy 107 h2 q1652, AI cy 214 h5 v5, AZ cy 2 h6 v6]) (rest := []) X dX8_restore_50 (c_X8_copyState l D cy ad h5 h2 214 107 v5 v2 ((107 : Int32) * x1) (0 : Int32) hq1652) mf_X8_copyState ms_X8_copyState lkm_X8_154 ⟨(Nat.le_of_ble_eq_true rfl), (Nat.le_of_ble_eq_true rfl), (Nat.le_of_ble_eq_true rfl), (Nat.le_of_ble_eq_true rfl)⟩ [2, 1, 0, 3] _ (by decide : [2, 1, 0, 3].Perm (List.range 4)) rfl (by decide : [2, 1, 0, 3].Perm (List.range 4)) rfl (Nat.le_of_ble_eq_true rfl) rfl ?_
    refine g_aload_n X dX8_restore_53 0 rfl rfl ?_
    refine g_iconst X (0 : Int32) dX8_restore_54 (by decide) ?_
    refine g_put (gs' := [MO h0 h1 h2 h3 h4 h5 h6 h7 h8 (q1651.2.1, q1651.2.2.1, (0 : Int32), q1651.2.2.2.2.1, q1651.2.2.2.2.2.1, q1651.2.2.2.2.2.2), AI cy 107 h2 q1652, AI cy 214 h5 v5, AZ cy 2 h6 v6]) X dX8_restore_55 ck_X8 ct_X8 0 0 6 rfl rfl (Nat.le_of_ble_eq_true rfl) lkf_X8_158 rfl rfl rfl (Nat.le_of_ble_eq_true rfl) rfl ?_
    refine g_aload_n X dX8_restore_58 0 rfl rfl ?_
    refine g_get X dX8_restore_59 ck_X8 0 0 3 rfl rfl (Nat.le_of_ble_eq_true rfl) lkf_X8_13 rfl ?_
    obtain ⟨q1653, hq1653, hf⟩ := obind hf
    refine g_callS (gs' := [MO h0 h1 h2 h3 h4 h5 h6 h7 h8 (q1651.2.1, q1651.2.2.1, (0 : Int32), q1651.2.2.2.2.1, q1651.2.2.2.2.2.1, q1651.2.2.2.2.2.2), AI cy 107 h2 q1652, AI cy 214 h5 v5, AZ cy 2 h6 v6]) (rest := []) X dX8_restore_62 (c_X8_leftOf l D cy ad h2 q1652 hq1653) mf_X8_leftOf ms_X8_leftOf lkm_X8_86 ⟨(Nat.le_of_ble_eq_true rfl), (Nat.le_of_ble_eq_true rfl), (Nat.le_of_ble_eq_true rfl), (Nat.le_of_ble_eq_true rfl)⟩ [1, 0, 2, 3] _ (by decide : [1, 0, 2, 3].Perm (List.range 4)) rfl (by decide : [1, 0, 2, 3].Perm (List.range 4)) rfl (Nat.le_of_ble_eq_true rfl) rfl ?_
    have hf := Option.some.inj hf
    subst hf
    exact g_iret X hr dX8_restore_65
  · have hf := oneg c1654 hf
    refine g_iconst X (0 : Int32) dX8_restore_35 (by decide) ?_
    have hf := Option.some.inj hf
    subst hf
    exact g_iret X hr dX8_restore_36
def f_X8_restore (v0 : MOv) (v2 : Fn) (v5 : Fn) (v6 : Fn) (p1 : Int32) : Option (Int32 × MOv × Fn) :=
  (f_X8_in (p1.toInt64) (0 : Int64) (1 : Int64)).bind (fun q1649 => if (b2i q1649) = 0 then f_X8_restore_b29 v0 v2 v5 v6 p1 (1 : Int32) else if p1 < 0 ∨ 2 ≤ p1.toNatClampNeg then none else if (v6 p1.toNatClampNeg) = 0 then f_X8_restore_b29 v0 v2 v5 v6 p1 (2 : Int32) else f_X8_restore_b29 v0 v2 v5 v6 p1 (0 : Int32))
set_option maxRecDepth 100000 in
set_option maxHeartbeats 4000000 in
theorem c_X8_restore (l : Launch) (D : va_G) (cy : Nat → ClassId) (ad : (Nat → Nat) × (Nat → Nat)) (h0 : Nat) (h1 : Nat) (h2 : Nat) (h3 : Nat) (h4 : Nat) (h5 : Nat) (h6 : Nat) (h7 : Nat) (h8 : Nat) (v0 : MOv) (v2 : Fn) (v5 : Fn) (v6 : Fn) (p1 : Int32) {q : Int32 × MOv × Fn} (hf : f_X8_restore v0 v2 v5 v6 p1 = some q) : CM l yX8_restore cX8_restore 2 (some .int) rmX8_restore D cy ad [.ref h0, .int p1] [MO h0 h1 h2 h3 h4 h5 h6 h7 h8 v0, AI cy 107 h2 v2, AI cy 214 h5 v5, AZ cy 2 h6 v6] (some (.int q.1)) [MO h0 h1 h2 h3 h4 h5 h6 h7 h8 q.2.1, AI cy 107 h2 q.2.2, AI cy 214 h5 v5, AZ cy 2 h6 v6] := by
  refine cm_of (lv0 := [(0, .ref h0), (1, .int p1)]) (by decide) (Nat.le_of_ble_eq_true rfl) rfl ?_
  intro p e s m args below meth c A X hr hn
  have X : gK p s m args meth c A D cy ad cX8_restore 2 RX8 := X
  unfold f_X8_restore at hf
  refine g_aload_n X dX8_restore_0 0 rfl rfl ?_
  refine g_iload_n X dX8_restore_1 1 rfl rfl ?_
  refine g_i2l X dX8_restore_2 ?_
  refine g_lconst X (0 : Int64) dX8_restore_3 (by decide) ?_
  refine g_lconst X (1 : Int64) dX8_restore_4 (by decide) ?_
  obtain ⟨q1649, hq1649, hf⟩ := obind hf
  refine g_callS (gs' := [MO h0 h1 h2 h3 h4 h5 h6 h7 h8 v0, AI cy 107 h2 v2, AI cy 214 h5 v5, AZ cy 2 h6 v6]) (rest := [.ref h0]) X dX8_restore_5 (c_X8_in l D cy ad (p1.toInt64) (0 : Int64) (1 : Int64) hq1649) mf_X8_in ms_X8_in lkm_X8_43 ⟨(Nat.le_of_ble_eq_true rfl), (Nat.le_of_ble_eq_true rfl), (Nat.le_of_ble_eq_true rfl), (Nat.le_of_ble_eq_true rfl)⟩ [0, 1, 2, 3] _ (by decide : [0, 1, 2, 3].Perm (List.range 4)) rfl (by decide : [0, 1, 2, 3].Perm (List.range 4)) rfl (Nat.le_of_ble_eq_true rfl) rfl ?_
  refine g_if_ne X 15 dX8_restore_8 (by decide) (fun c1656 => ?_) (fun c1656 => ?_)
  · have hf := oneg c1656 hf
    refine g_aload_n X dX8_restore_15 0 rfl rfl ?_
    refine g_get X dX8_restore_16 ck_X8 0 0 8 rfl rfl (Nat.le_of_ble_eq_true rfl) lkf_X8_25 rfl ?_
    refine g_iload_n X dX8_restore_19 1 rfl rfl ?_
    obtain ⟨n1650, hf⟩ := oguard hf
    refine g_baload X dX8_restore_20 3 0 rfl rfl n1650 ?_
    refine g_if_ne X 28 dX8_restore_21 (by decide) (fun c1655 => ?_) (fun c1655 => ?_)
    · have hf := oneg c1655 hf
      refine g_iconst X (0 : Int32) dX8_restore_28 (by decide) ?_
      exact j_X8_restore_b29 X hr v0 v2 v5 v6 p1 (0 : Int32) hf
    · have hf := opos c1655 hf
      refine g_iconst X (2 : Int32) dX8_restore_24 (by decide) ?_
      refine g_goto X 29 dX8_restore_25 (by decide) ?_
      exact j_X8_restore_b29 X hr v0 v2 v5 v6 p1 (2 : Int32) hf
  · have hf := opos c1656 hf
    refine g_iconst X (1 : Int32) dX8_restore_11 (by decide) ?_
    refine g_goto X 29 dX8_restore_12 (by decide) ?_
    exact j_X8_restore_b29 X hr v0 v2 v5 v6 p1 (1 : Int32) hf
