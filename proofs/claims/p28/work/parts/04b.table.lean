abbrev rmX4_layOut : Room := ({ frames := 1, cells := 0, slots := 0, locals := 23 } : Room)
def f_X4_layOut (v0 : TBv) (v1 : Fn) (p1 : Int32) (p2 : Int32) : Option (TBv × Fn) :=
  (f_X3_suspectAll v1 p1).bind (fun q106 => some ((p1, p2, v0.2.2.1, v0.2.2.2.1, v0.2.2.2.2.1, v0.2.2.2.2.2.1, (0 : Int32), v0.2.2.2.2.2.2.2), q106))
set_option maxRecDepth 100000 in
set_option maxHeartbeats 4000000 in
theorem c_X4_layOut (l : Launch) (D : va_G) (cy : Nat → ClassId) (ad : (Nat → Nat) × (Nat → Nat)) (h0 : Nat) (h1 : Nat) (h2 : Nat) (h3 : Nat) (h4 : Nat) (v0 : TBv) (v1 : Fn) (p1 : Int32) (p2 : Int32) {q : TBv × Fn} (hf : f_X4_layOut v0 v1 p1 p2 = some q) : CM l yX4_layOut cX4_layOut 3 none rmX4_layOut D cy ad [.ref h0, .int p1, .int p2] [TB cy h0 h1 h2 h3 v0, SU cy h2 h4 v1] none [TB cy h0 h1 h2 h3 q.1, SU cy h2 h4 q.2] := by
  refine cm_of (lv0 := [(0, .ref h0), (1, .int p1), (2, .int p2)]) (by decide) (Nat.le_of_ble_eq_true rfl) rfl ?_
  intro p e s m args below meth c A X hr hn
  have X : gK p s m args meth c A D cy ad cX4_layOut 3 RX4 := X
  unfold f_X4_layOut at hf
  refine g_aload_n X dX4_layOut_0 0 rfl rfl ?_
  refine g_iload_n X dX4_layOut_1 1 rfl rfl ?_
  refine g_put (gs' := [TB cy h0 h1 h2 h3 (p1, v0.2.1, v0.2.2.1, v0.2.2.2.1, v0.2.2.2.2.1, v0.2.2.2.2.2.1, v0.2.2.2.2.2.2.1, v0.2.2.2.2.2.2.2), SU cy h2 h4 v1]) X dX4_layOut_2 ck_X4 ct_X4 0 0 0 rfl rfl (Nat.le_of_ble_eq_true rfl) lkf_X4_46 rfl rfl rfl (Nat.le_of_ble_eq_true rfl) rfl ?_
  refine g_aload_n X dX4_layOut_5 0 rfl rfl ?_
  refine g_iload_n X dX4_layOut_6 2 rfl rfl ?_
  refine g_put (gs' := [TB cy h0 h1 h2 h3 (p1, p2, v0.2.2.1, v0.2.2.2.1, v0.2.2.2.2.1, v0.2.2.2.2.2.1, v0.2.2.2.2.2.2.1, v0.2.2.2.2.2.2.2), SU cy h2 h4 v1]) X dX4_layOut_7 ck_X4 ct_X4 0 0 1 rfl rfl (Nat.le_of_ble_eq_true rfl) lkf_X4_49 rfl rfl rfl (Nat.le_of_ble_eq_true rfl) rfl ?_
  refine g_aload_n X dX4_layOut_10 0 rfl rfl ?_
  refine g_iconst X (0 : Int32) dX4_layOut_11 (by decide) ?_
  refine g_put (gs' := [TB cy h0 h1 h2 h3 (p1, p2, v0.2.2.1, v0.2.2.2.1, v0.2.2.2.2.1, v0.2.2.2.2.2.1, (0 : Int32), v0.2.2.2.2.2.2.2), SU cy h2 h4 v1]) X dX4_layOut_12 ck_X4 ct_X4 0 0 6 rfl rfl (Nat.le_of_ble_eq_true rfl) lkf_X4_52 rfl rfl rfl (Nat.le_of_ble_eq_true rfl) rfl ?_
  refine g_aload_n X dX4_layOut_15 0 rfl rfl ?_
  refine g_get X dX4_layOut_16 ck_X4 0 0 8 rfl rfl (Nat.le_of_ble_eq_true rfl) lkf_X4_18 rfl ?_
  refine g_iload_n X dX4_layOut_19 1 rfl rfl ?_
  obtain ⟨q106, hq106, hf⟩ := obind hf
  refine g_callV (gs' := [TB cy h0 h1 h2 h3 (p1, p2, v0.2.2.1, v0.2.2.2.1, v0.2.2.2.2.1, v0.2.2.2.2.2.1, (0 : Int32), v0.2.2.2.2.2.2.2), SU cy h2 h4 q106]) (rest := []) X dX4_layOut_20 (c_X3_suspectAll l D cy ad h2 h4 v1 p1 hq106) mf_X3_suspectAll mv_X3_suspectAll lkm_X4_59 ⟨(Nat.le_of_ble_eq_true rfl), (Nat.le_of_ble_eq_true rfl), (Nat.le_of_ble_eq_true rfl), (Nat.le_of_ble_eq_true rfl)⟩ 1 0 rfl rfl rfl rfl [1, 0] _ (by decide : [1, 0].Perm (List.range 2)) rfl (by decide : [1, 0].Perm (List.range 2)) rfl (Nat.le_of_ble_eq_true rfl) rfl ?_
  have hf := Option.some.inj hf
  subst hf
  exact g_vret X hr dX4_layOut_23
abbrev rmX4_reset : Room := ({ frames := 2, cells := 0, slots := 0, locals := 45 } : Room)
def f_X4_reset (v0 : TBv) (v1 : Fn) : Option (TBv × Fn) :=
  (f_X4_layOut v0 v1 (9 : Int32) (0 : Int32)).bind (fun q109 => some ((q109.1.1, q109.1.2.1, (10 : Int32), (10 : Int32), (0 : Int32), (0 : Int32), q109.1.2.2.2.2.2.2.1, q109.1.2.2.2.2.2.2.2), q109.2))
set_option maxRecDepth 100000 in
set_option maxHeartbeats 4000000 in
theorem c_X4_reset (l : Launch) (D : va_G) (cy : Nat → ClassId) (ad : (Nat → Nat) × (Nat → Nat)) (h0 : Nat) (h1 : Nat) (h2 : Nat) (h3 : Nat) (h4 : Nat) (v0 : TBv) (v1 : Fn) {q : TBv × Fn} (hf : f_X4_reset v0 v1 = some q) : CM l yX4_reset cX4_reset 1 none rmX4_reset D cy ad [.ref h0] [TB cy h0 h1 h2 h3 v0, SU cy h2 h4 v1] none [TB cy h0 h1 h2 h3 q.1, SU cy h2 h4 q.2] := by
  refine cm_of (lv0 := [(0, .ref h0)]) (by decide) (Nat.le_of_ble_eq_true rfl) rfl ?_
  intro p e s m args below meth c A X hr hn
  have X : gK p s m args meth c A D cy ad cX4_reset 1 RX4 := X
  unfold f_X4_reset at hf
  refine g_aload_n X dX4_reset_0 0 rfl rfl ?_
  refine g_bipush X (9 : Int32) dX4_reset_1 (by decide) ?_
  refine g_iconst X (0 : Int32) dX4_reset_3 (by decide) ?_
  obtain ⟨q109, hq109, hf⟩ := obind hf
  refine g_callV (gs' := [TB cy h0 h1 h2 h3 q109.1, SU cy h2 h4 q109.2]) (rest := []) X dX4_reset_4 (c_X4_layOut l D cy ad h0 h1 h2 h3 h4 v0 v1 (9 : Int32) (0 : Int32) hq109) mf_X4_layOut mv_X4_layOut lkm_X4_29 ⟨(Nat.le_of_ble_eq_true rfl), (Nat.le_of_ble_eq_true rfl), (Nat.le_of_ble_eq_true rfl), (Nat.le_of_ble_eq_true rfl)⟩ 0 0 rfl rfl rfl rfl [0, 1] _ (by decide : [0, 1].Perm (List.range 2)) rfl (by decide : [0, 1].Perm (List.range 2)) rfl (Nat.le_of_ble_eq_true rfl) rfl ?_
  refine g_aload_n X dX4_reset_7 0 rfl rfl ?_
  refine g_bipush X (10 : Int32) dX4_reset_8 (by decide) ?_
  refine g_put (gs' := [TB cy h0 h1 h2 h3 (q109.1.1, q109.1.2.1, (10 : Int32), q109.1.2.2.2.1, q109.1.2.2.2.2.1, q109.1.2.2.2.2.2.1, q109.1.2.2.2.2.2.2.1, q109.1.2.2.2.2.2.2.2), SU cy h2 h4 q109.2]) X dX4_reset_10 ck_X4 ct_X4 0 0 2 rfl rfl (Nat.le_of_ble_eq_true rfl) lkf_X4_33 rfl rfl rfl (Nat.le_of_ble_eq_true rfl) rfl ?_
  refine g_aload_n X dX4_reset_13 0 rfl rfl ?_
  refine g_bipush X (10 : Int32) dX4_reset_14 (by decide) ?_
  refine g_put (gs' := [TB cy h0 h1 h2 h3 (q109.1.1, q109.1.2.1, (10 : Int32), (10 : Int32), q109.1.2.2.2.2.1, q109.1.2.2.2.2.2.1, q109.1.2.2.2.2.2.2.1, q109.1.2.2.2.2.2.2.2), SU cy h2 h4 q109.2]) X dX4_reset_16 ck_X4 ct_X4 0 0 3 rfl rfl (Nat.le_of_ble_eq_true rfl) lkf_X4_37 rfl rfl rfl (Nat.le_of_ble_eq_true rfl) rfl ?_
  refine g_aload_n X dX4_reset_19 0 rfl rfl ?_
  refine g_iconst X (0 : Int32) dX4_reset_20 (by decide) ?_
  refine g_put (gs' := [TB cy h0 h1 h2 h3 (q109.1.1, q109.1.2.1, (10 : Int32), (10 : Int32), (0 : Int32), q109.1.2.2.2.2.2.1, q109.1.2.2.2.2.2.2.1, q109.1.2.2.2.2.2.2.2), SU cy h2 h4 q109.2]) X dX4_reset_21 ck_X4 ct_X4 0 0 4 rfl rfl (Nat.le_of_ble_eq_true rfl) lkf_X4_40 rfl rfl rfl (Nat.le_of_ble_eq_true rfl) rfl ?_
  refine g_aload_n X dX4_reset_24 0 rfl rfl ?_
  refine g_iconst X (0 : Int32) dX4_reset_25 (by decide) ?_
  refine g_put (gs' := [TB cy h0 h1 h2 h3 (q109.1.1, q109.1.2.1, (10 : Int32), (10 : Int32), (0 : Int32), (0 : Int32), q109.1.2.2.2.2.2.2.1, q109.1.2.2.2.2.2.2.2), SU cy h2 h4 q109.2]) X dX4_reset_26 ck_X4 ct_X4 0 0 5 rfl rfl (Nat.le_of_ble_eq_true rfl) lkf_X4_43 rfl rfl rfl (Nat.le_of_ble_eq_true rfl) rfl ?_
  have hf := Option.some.inj hf
  subst hf
  exact g_vret X hr dX4_reset_29
abbrev rmX4_copyFrom : Room := ({ frames := 1, cells := 0, slots := 0, locals := 22 } : Room)
def f_X4_copyFrom_B58 (v1 : Fn) (w0 : TBv) (u0 : Fn) (z : Int32 × TBv) : Option ((Int32 × TBv) ⊕ ((TBv))) :=
  if (120 : Int32) ≤ z.1 then some (.inr ((z.2))) else if (120 : Int32) ≤ z.1 then some (.inr ((z.2))) else if z.1 < 0 ∨ 120 ≤ z.1.toNatClampNeg then none else if z.1 < 0 ∨ 120 ≤ z.1.toNatClampNeg then none else some (.inl ((z.1 + (1 : Int32)), (z.2.1, z.2.2.1, z.2.2.2.1, z.2.2.2.2.1, z.2.2.2.2.2.1, z.2.2.2.2.2.2.1, z.2.2.2.2.2.2.2.1, (upd z.2.2.2.2.2.2.2.2 z.1.toNatClampNeg (w0.2.2.2.2.2.2.2 z.1.toNatClampNeg)))))
set_option maxRecDepth 100000 in
set_option maxHeartbeats 4000000 in
theorem b_X4_copyFrom_B58 {p : Program} {l : Launch} {e : Env} {s : State} {m : MethodId} {args : Array Value} {below : List Frame} {meth : Method} {c : Code} {A : Nat → Prop} {D : va_G} {cy : Nat → ClassId} {ad : (Nat → Nat) × (Nat → Nat)} {Q : State → Prop} (X : gK p s m args meth c A D cy ad cX4_copyFrom 3 RX4) (hr : meth.sig.returnType = none) {h0 h1 h2 h3 h4 g0 g0r g0s g0c g0t : Nat} (v1 : Fn) (w0 : TBv) (u0 : Fn) (z : Int32 × TBv) {q : (Int32 × TBv) ⊕ ((TBv))} (hf : f_X4_copyFrom_B58 v1 w0 u0 z = some q) (K1 : ∀ s' : Int32 × TBv, q = .inl s' → GW p l e rmX4_copyFrom s m args below meth c A D 3 0 0 Q 58 [(0, .ref h0), (1, .ref g0), (2, .int s'.1)] [] [TB cy h0 h1 h2 h3 (s'.2.1, s'.2.2.1, s'.2.2.2.1, s'.2.2.2.2.1, s'.2.2.2.2.2.1, s'.2.2.2.2.2.2.1, s'.2.2.2.2.2.2.2.1, s'.2.2.2.2.2.2.2.2), SU cy h2 h4 v1, TB cy g0 g0r g0s g0c w0, SU cy g0s g0t u0]) (K2 : ∀ e' : TBv, q = .inr (e') → GW p l e rmX4_copyFrom s m args below meth c A D 3 0 0 Q 94 [(0, .ref h0), (1, .ref g0)] [] [TB cy h0 h1 h2 h3 (e'.1, e'.2.1, e'.2.2.1, e'.2.2.2.1, e'.2.2.2.2.1, e'.2.2.2.2.2.1, e'.2.2.2.2.2.2.1, e'.2.2.2.2.2.2.2), SU cy h2 h4 v1, TB cy g0 g0r g0s g0c w0, SU cy g0s g0t u0]) : GW p l e rmX4_copyFrom s m args below meth c A D 3 0 0 Q 58 [(0, .ref h0), (1, .ref g0), (2, .int z.1)] [] [TB cy h0 h1 h2 h3 z.2, SU cy h2 h4 v1, TB cy g0 g0r g0s g0c w0, SU cy g0s g0t u0] := by
  unfold f_X4_copyFrom_B58 at hf
  refine g_iload_n X dX4_copyFrom_58 2 rfl rfl ?_
  refine g_aload_n X dX4_copyFrom_59 0 rfl rfl ?_
  refine g_get X dX4_copyFrom_60 ck_X4 0 0 7 rfl rfl (Nat.le_of_ble_eq_true rfl) lkf_X4_9 rfl ?_
  refine g_alen0 (v := (120 : Int32)) X dX4_copyFrom_63 0 1 rfl rfl (by decide : Int32.ofNat 120 = (120 : Int32)) ?_
  refine g_icmp_ge X 94 dX4_copyFrom_64 (by decide) (fun c115 => ?_) (fun c115 => ?_)
  · have hf := opos c115 hf
    refine g_sub [0, 1] (lv' := [(0, .ref h0), (1, .ref g0)]) rfl ?_
    exact K2 (z.2) (Option.some.inj hf).symm
  · have hf := oneg c115 hf
    refine g_iload_n X dX4_copyFrom_67 2 rfl rfl ?_
    refine g_aload_n X dX4_copyFrom_68 1 rfl rfl ?_
    refine g_get X dX4_copyFrom_69 ck_X4 2 0 7 rfl rfl (Nat.le_of_ble_eq_true rfl) lkf_X4_9 rfl ?_
    refine g_alen0 (v := (120 : Int32)) X dX4_copyFrom_72 2 1 rfl rfl (by decide : Int32.ofNat 120 = (120 : Int32)) ?_
    refine g_icmp_ge X 94 dX4_copyFrom_73 (by decide) (fun c114 => ?_) (fun c114 => ?_)
    · have hf := opos c114 hf
      refine g_sub [0, 1] (lv' := [(0, .ref h0), (1, .ref g0)]) rfl ?_
      exact K2 (z.2) (Option.some.inj hf).symm
    · have hf := oneg c114 hf
      refine g_aload_n X dX4_copyFrom_76 0 rfl rfl ?_
      refine g_get X dX4_copyFrom_77 ck_X4 0 0 7 rfl rfl (Nat.le_of_ble_eq_true rfl) lkf_X4_9 rfl ?_
      refine g_iload_n X dX4_copyFrom_80 2 rfl rfl ?_
      refine g_aload_n X dX4_copyFrom_81 1 rfl rfl ?_
      refine g_get X dX4_copyFrom_82 ck_X4 2 0 7 rfl rfl (Nat.le_of_ble_eq_true rfl) lkf_X4_9 rfl ?_
      refine g_iload_n X dX4_copyFrom_85 2 rfl rfl ?_
      obtain ⟨n112, hf⟩ := oguard hf
      refine g_iaload X dX4_copyFrom_86 2 1 rfl rfl n112 ?_
      obtain ⟨n113, hf⟩ := oguard hf
      refine g_iastore (gs' := [TB cy h0 h1 h2 h3 (z.2.1, z.2.2.1, z.2.2.2.1, z.2.2.2.2.1, z.2.2.2.2.2.1, z.2.2.2.2.2.2.1, z.2.2.2.2.2.2.2.1, (upd z.2.2.2.2.2.2.2.2 z.1.toNatClampNeg (w0.2.2.2.2.2.2.2 z.1.toNatClampNeg))), SU cy h2 h4 v1, TB cy g0 g0r g0s g0c w0, SU cy g0s g0t u0]) X dX4_copyFrom_87 0 1 rfl rfl n113 rfl ?_
      refine g_iinc (lv' := [(0, .ref h0), (1, .ref g0), (2, .int (z.1 + (1 : Int32)))]) (v := (1 : Int32)) X dX4_copyFrom_88 2 rfl (by decide) [1, 2, 0] (Nat.le_of_ble_eq_true rfl) rfl ?_
      refine g_goto X 58 dX4_copyFrom_91 (by decide) ?_
      exact K1 ((z.1 + (1 : Int32)), (z.2.1, z.2.2.1, z.2.2.2.1, z.2.2.2.2.1, z.2.2.2.2.2.1, z.2.2.2.2.2.2.1, z.2.2.2.2.2.2.2.1, (upd z.2.2.2.2.2.2.2.2 z.1.toNatClampNeg (w0.2.2.2.2.2.2.2 z.1.toNatClampNeg)))) (Option.some.inj hf).symm
set_option maxRecDepth 100000 in
set_option maxHeartbeats 4000000 in
theorem w_X4_copyFrom_B58 {p : Program} {l : Launch} {e : Env} {s : State} {m : MethodId} {args : Array Value} {below : List Frame} {meth : Method} {c : Code} {A : Nat → Prop} {D : va_G} {cy : Nat → ClassId} {ad : (Nat → Nat) × (Nat → Nat)} {Q : State → Prop} (X : gK p s m args meth c A D cy ad cX4_copyFrom 3 RX4) (hr : meth.sig.returnType = none) {h0 h1 h2 h3 h4 g0 g0r g0s g0c g0t : Nat} (v1 : Fn) (w0 : TBv) (u0 : Fn) {n : Nat} {z : Int32 × TBv} {q : (TBv)} (hf : itl (f_X4_copyFrom_B58 v1 w0 u0) n z = some q) (K2 : GW p l e rmX4_copyFrom s m args below meth c A D 3 0 0 Q 94 [(0, .ref h0), (1, .ref g0)] [] [TB cy h0 h1 h2 h3 q, SU cy h2 h4 v1, TB cy g0 g0r g0s g0c w0, SU cy g0s g0t u0]) : GW p l e rmX4_copyFrom s m args below meth c A D 3 0 0 Q 58 [(0, .ref h0), (1, .ref g0), (2, .int z.1)] [] [TB cy h0 h1 h2 h3 z.2, SU cy h2 h4 v1, TB cy g0 g0r g0s g0c w0, SU cy g0s g0t u0] :=
  itl_ind (f := f_X4_copyFrom_B58 v1 w0 u0) (I := fun z => GW p l e rmX4_copyFrom s m args below meth c A D 3 0 0 Q 58 [(0, .ref h0), (1, .ref g0), (2, .int z.1)] [] [TB cy h0 h1 h2 h3 z.2, SU cy h2 h4 v1, TB cy g0 g0r g0s g0c w0, SU cy g0s g0t u0]) (J := (fun q => GW p l e rmX4_copyFrom s m args below meth c A D 3 0 0 Q 94 [(0, .ref h0), (1, .ref g0)] [] [TB cy h0 h1 h2 h3 q, SU cy h2 h4 v1, TB cy g0 g0r g0s g0c w0, SU cy g0s g0t u0])) (fun z x h k1 k2 => b_X4_copyFrom_B58 X hr v1 w0 u0 z h (fun s' hs => k1 s' hs) (fun e' he => k2 e' he)) n z q hf K2
def f_X4_copyFrom_b94 (v0 : TBv) (v1 : Fn) (w0 : TBv) (u0 : Fn) : Option (TBv × Fn) :=
  (f_X3_copyFrom v1 u0).bind (fun q117 => some (v0, q117))
set_option maxRecDepth 100000 in
set_option maxHeartbeats 4000000 in
theorem j_X4_copyFrom_b94 {p : Program} {l : Launch} {e : Env} {s : State} {m : MethodId} {args : Array Value} {below : List Frame} {meth : Method} {c : Code} {A : Nat → Prop} {D : va_G} {cy : Nat → ClassId} {ad : (Nat → Nat) × (Nat → Nat)} (X : gK p s m args meth c A D cy ad cX4_copyFrom 3 RX4) (hr : meth.sig.returnType = none) {h0 h1 h2 h3 h4 g0 g0r g0s g0c g0t : Nat} (v0 : TBv) (v1 : Fn) (w0 : TBv) (u0 : Fn) {q : TBv × Fn} (hf : f_X4_copyFrom_b94 v0 v1 w0 u0 = some q) : GW p l e rmX4_copyFrom s m args below meth c A D 3 0 0 (MQ below (cmQ D cy A none ([TB cy h0 h1 h2 h3 q.1, SU cy h2 h4 q.2, TB cy g0 g0r g0s g0c w0, SU cy g0s g0t u0] : List va_W).flatten) args s 0 0 A) 94 [(0, .ref h0), (1, .ref g0)] [] [TB cy h0 h1 h2 h3 v0, SU cy h2 h4 v1, TB cy g0 g0r g0s g0c w0, SU cy g0s g0t u0] := by
  unfold f_X4_copyFrom_b94 at hf
  refine g_aload_n X dX4_copyFrom_94 0 rfl rfl ?_
  refine g_get X dX4_copyFrom_95 ck_X4 0 0 8 rfl rfl (Nat.le_of_ble_eq_true rfl) lkf_X4_18 rfl ?_
  refine g_aload_n X dX4_copyFrom_98 1 rfl rfl ?_
  refine g_get X dX4_copyFrom_99 ck_X4 2 0 8 rfl rfl (Nat.le_of_ble_eq_true rfl) lkf_X4_18 rfl ?_
  obtain ⟨q117, hq117, hf⟩ := obind hf
  refine g_callV (gs' := [TB cy h0 h1 h2 h3 v0, SU cy h2 h4 q117, TB cy g0 g0r g0s g0c w0, SU cy g0s g0t u0]) (rest := []) X dX4_copyFrom_102 (c_X3_copyFrom l D cy ad h2 h4 g0s g0t v1 u0 hq117) mf_X3_copyFrom mv_X3_copyFrom lkm_X4_55 ⟨(Nat.le_of_ble_eq_true rfl), (Nat.le_of_ble_eq_true rfl), (Nat.le_of_ble_eq_true rfl), (Nat.le_of_ble_eq_true rfl)⟩ 1 0 rfl rfl rfl rfl [1, 3, 0, 2] _ (by decide : [1, 3, 0, 2].Perm (List.range 4)) rfl (by decide : [1, 3, 0, 2].Perm (List.range 4)) rfl (Nat.le_of_ble_eq_true rfl) rfl ?_
  have hf := Option.some.inj hf
  subst hf
  exact g_vret X hr dX4_copyFrom_105
def f_X4_copyFrom (v0 : TBv) (v1 : Fn) (w0 : TBv) (u0 : Fn) : Option (TBv × Fn) :=
  (itl (f_X4_copyFrom_B58 v1 w0 u0) FU ((0 : Int32), (w0.1, w0.2.1, w0.2.2.1, w0.2.2.2.1, w0.2.2.2.2.1, w0.2.2.2.2.2.1, w0.2.2.2.2.2.2.1, v0.2.2.2.2.2.2.2))).bind (fun q116 => f_X4_copyFrom_b94 q116 v1 w0 u0)
set_option maxRecDepth 100000 in
set_option maxHeartbeats 4000000 in
theorem c_X4_copyFrom (l : Launch) (D : va_G) (cy : Nat → ClassId) (ad : (Nat → Nat) × (Nat → Nat)) (h0 : Nat) (h1 : Nat) (h2 : Nat) (h3 : Nat) (h4 : Nat) (g0 : Nat) (g0r : Nat) (g0s : Nat) (g0c : Nat) (g0t : Nat) (v0 : TBv) (v1 : Fn) (w0 : TBv) (u0 : Fn) {q : TBv × Fn} (hf : f_X4_copyFrom v0 v1 w0 u0 = some q) : CM l yX4_copyFrom cX4_copyFrom 3 none rmX4_copyFrom D cy ad [.ref h0, .ref g0] [TB cy h0 h1 h2 h3 v0, SU cy h2 h4 v1, TB cy g0 g0r g0s g0c w0, SU cy g0s g0t u0] none [TB cy h0 h1 h2 h3 q.1, SU cy h2 h4 q.2, TB cy g0 g0r g0s g0c w0, SU cy g0s g0t u0] := by
  refine cm_of (lv0 := [(0, .ref h0), (1, .ref g0)]) (by decide) (Nat.le_of_ble_eq_true rfl) rfl ?_
  intro p e s m args below meth c A X hr hn
  have X : gK p s m args meth c A D cy ad cX4_copyFrom 3 RX4 := X
  unfold f_X4_copyFrom at hf
  refine g_aload_n X dX4_copyFrom_0 0 rfl rfl ?_
  refine g_aload_n X dX4_copyFrom_1 1 rfl rfl ?_
  refine g_get X dX4_copyFrom_2 ck_X4 2 0 0 rfl rfl (Nat.le_of_ble_eq_true rfl) lkf_X4_46 rfl ?_
  refine g_put (gs' := [TB cy h0 h1 h2 h3 (w0.1, v0.2.1, v0.2.2.1, v0.2.2.2.1, v0.2.2.2.2.1, v0.2.2.2.2.2.1, v0.2.2.2.2.2.2.1, v0.2.2.2.2.2.2.2), SU cy h2 h4 v1, TB cy g0 g0r g0s g0c w0, SU cy g0s g0t u0]) X dX4_copyFrom_5 ck_X4 ct_X4 0 0 0 rfl rfl (Nat.le_of_ble_eq_true rfl) lkf_X4_46 rfl rfl rfl (Nat.le_of_ble_eq_true rfl) rfl ?_
  refine g_aload_n X dX4_copyFrom_8 0 rfl rfl ?_
  refine g_aload_n X dX4_copyFrom_9 1 rfl rfl ?_
  refine g_get X dX4_copyFrom_10 ck_X4 2 0 1 rfl rfl (Nat.le_of_ble_eq_true rfl) lkf_X4_49 rfl ?_
  refine g_put (gs' := [TB cy h0 h1 h2 h3 (w0.1, w0.2.1, v0.2.2.1, v0.2.2.2.1, v0.2.2.2.2.1, v0.2.2.2.2.2.1, v0.2.2.2.2.2.2.1, v0.2.2.2.2.2.2.2), SU cy h2 h4 v1, TB cy g0 g0r g0s g0c w0, SU cy g0s g0t u0]) X dX4_copyFrom_13 ck_X4 ct_X4 0 0 1 rfl rfl (Nat.le_of_ble_eq_true rfl) lkf_X4_49 rfl rfl rfl (Nat.le_of_ble_eq_true rfl) rfl ?_
  refine g_aload_n X dX4_copyFrom_16 0 rfl rfl ?_
  refine g_aload_n X dX4_copyFrom_17 1 rfl rfl ?_
  refine g_get X dX4_copyFrom_18 ck_X4 2 0 2 rfl rfl (Nat.le_of_ble_eq_true rfl) lkf_X4_33 rfl ?_
  refine g_put (gs' := [TB cy h0 h1 h2 h3 (w0.1, w0.2.1, w0.2.2.1, v0.2.2.2.1, v0.2.2.2.2.1, v0.2.2.2.2.2.1, v0.2.2.2.2.2.2.1, v0.2.2.2.2.2.2.2), SU cy h2 h4 v1, TB cy g0 g0r g0s g0c w0, SU cy g0s g0t u0]) X dX4_copyFrom_21 ck_X4 ct_X4 0 0 2 rfl rfl (Nat.le_of_ble_eq_true rfl) lkf_X4_33 rfl rfl rfl (Nat.le_of_ble_eq_true rfl) rfl ?_
  refine g_aload_n X dX4_copyFrom_24 0 rfl rfl ?_
  refine g_aload_n X dX4_copyFrom_25 1 rfl rfl ?_
  refine g_get X dX4_copyFrom_26 ck_X4 2 0 3 rfl rfl (Nat.le_of_ble_eq_true rfl) lkf_X4_37 rfl ?_
  refine g_put (gs' := [TB cy h0 h1 h2 h3 (w0.1, w0.2.1, w0.2.2.1, w0.2.2.2.1, v0.2.2.2.2.1, v0.2.2.2.2.2.1, v0.2.2.2.2.2.2.1, v0.2.2.2.2.2.2.2), SU cy h2 h4 v1, TB cy g0 g0r g0s g0c w0, SU cy g0s g0t u0]) X dX4_copyFrom_29 ck_X4 ct_X4 0 0 3 rfl rfl (Nat.le_of_ble_eq_true rfl) lkf_X4_37 rfl rfl rfl (Nat.le_of_ble_eq_true rfl) rfl ?_
  refine g_aload_n X dX4_copyFrom_32 0 rfl rfl ?_
  refine g_aload_n X dX4_copyFrom_33 1 rfl rfl ?_
  refine g_get X dX4_copyFrom_34 ck_X4 2 0 4 rfl rfl (Nat.le_of_ble_eq_true rfl) lkf_X4_40 rfl ?_
  refine g_put (gs' := [TB cy h0 h1 h2 h3 (w0.1, w0.2.1, w0.2.2.1, w0.2.2.2.1, w0.2.2.2.2.1, v0.2.2.2.2.2.1, v0.2.2.2.2.2.2.1, v0.2.2.2.2.2.2.2), SU cy h2 h4 v1, TB cy g0 g0r g0s g0c w0, SU cy g0s g0t u0]) X dX4_copyFrom_37 ck_X4 ct_X4 0 0 4 rfl rfl (Nat.le_of_ble_eq_true rfl) lkf_X4_40 rfl rfl rfl (Nat.le_of_ble_eq_true rfl) rfl ?_
  refine g_aload_n X dX4_copyFrom_40 0 rfl rfl ?_
  refine g_aload_n X dX4_copyFrom_41 1 rfl rfl ?_
  refine g_get X dX4_copyFrom_42 ck_X4 2 0 5 rfl rfl (Nat.le_of_ble_eq_true rfl) lkf_X4_43 rfl ?_
  refine g_put (gs' := [TB cy h0 h1 h2 h3 (w0.1, w0.2.1, w0.2.2.1, w0.2.2.2.1, w0.2.2.2.2.1, w0.2.2.2.2.2.1, v0.2.2.2.2.2.2.1, v0.2.2.2.2.2.2.2), SU cy h2 h4 v1, TB cy g0 g0r g0s g0c w0, SU cy g0s g0t u0]) X dX4_copyFrom_45 ck_X4 ct_X4 0 0 5 rfl rfl (Nat.le_of_ble_eq_true rfl) lkf_X4_43 rfl rfl rfl (Nat.le_of_ble_eq_true rfl) rfl ?_
  refine g_aload_n X dX4_copyFrom_48 0 rfl rfl ?_
  refine g_aload_n X dX4_copyFrom_49 1 rfl rfl ?_
  refine g_get X dX4_copyFrom_50 ck_X4 2 0 6 rfl rfl (Nat.le_of_ble_eq_true rfl) lkf_X4_52 rfl ?_
  refine g_put (gs' := [TB cy h0 h1 h2 h3 (w0.1, w0.2.1, w0.2.2.1, w0.2.2.2.1, w0.2.2.2.2.1, w0.2.2.2.2.2.1, w0.2.2.2.2.2.2.1, v0.2.2.2.2.2.2.2), SU cy h2 h4 v1, TB cy g0 g0r g0s g0c w0, SU cy g0s g0t u0]) X dX4_copyFrom_53 ck_X4 ct_X4 0 0 6 rfl rfl (Nat.le_of_ble_eq_true rfl) lkf_X4_52 rfl rfl rfl (Nat.le_of_ble_eq_true rfl) rfl ?_
  refine g_iconst X (0 : Int32) dX4_copyFrom_56 (by decide) ?_
  refine g_istore_n (lv' := [(0, .ref h0), (1, .ref g0), (2, .int (0 : Int32))]) X dX4_copyFrom_57 [1, 2, 0] rfl (Nat.le_of_ble_eq_true rfl) rfl ?_
  obtain ⟨q116, hq116, hf⟩ := obind hf
  refine w_X4_copyFrom_B58 X hr v1 w0 u0 hq116 ?_
  exact j_X4_copyFrom_b94 X hr q116 v1 w0 u0 hf
abbrev rmX4_allCases : Room := ({ frames := 1, cells := 0, slots := 0, locals := 20 } : Room)
def f_X4_allCases (v0 : TBv) : Option (Int32) :=
  (f_X7_casesOf v0.1).bind (fun q120 => some q120)
set_option maxRecDepth 100000 in
set_option maxHeartbeats 4000000 in
theorem c_X4_allCases (l : Launch) (D : va_G) (cy : Nat → ClassId) (ad : (Nat → Nat) × (Nat → Nat)) (h0 : Nat) (h1 : Nat) (h2 : Nat) (h3 : Nat) (v0 : TBv) {q : Int32} (hf : f_X4_allCases v0 = some q) : CM l yX4_allCases cX4_allCases 1 (some .int) rmX4_allCases D cy ad [.ref h0] [TB cy h0 h1 h2 h3 v0] (some (.int q)) [TB cy h0 h1 h2 h3 v0] := by
  refine cm_of (lv0 := [(0, .ref h0)]) (by decide) (Nat.le_of_ble_eq_true rfl) rfl ?_
  intro p e s m args below meth c A X hr hn
  have X : gK p s m args meth c A D cy ad cX4_allCases 1 RX4 := X
  unfold f_X4_allCases at hf
  refine g_aload_n X dX4_allCases_0 0 rfl rfl ?_
  refine g_get X dX4_allCases_1 ck_X4 0 0 0 rfl rfl (Nat.le_of_ble_eq_true rfl) lkf_X4_46 rfl ?_
  obtain ⟨q120, hq120, hf⟩ := obind hf
  refine g_callSN (gs' := [TB cy h0 h1 h2 h3 v0]) (rest := []) X dX4_allCases_4 (c_X7_casesOf l D cy ad v0.1 hq120) mf_X7_casesOf ms_X7_casesOf lkn_X4_63 ⟨(Nat.le_of_ble_eq_true rfl), (Nat.le_of_ble_eq_true rfl), (Nat.le_of_ble_eq_true rfl), (Nat.le_of_ble_eq_true rfl)⟩ [0] _ (by decide : [0].Perm (List.range 1)) rfl (by decide : [0].Perm (List.range 1)) rfl (Nat.le_of_ble_eq_true rfl) rfl ?_
  have hf := Option.some.inj hf
  subst hf
  exact g_iret X hr dX4_allCases_7
abbrev rmX4_hasCoin : Room := ({ frames := 0, cells := 0, slots := 0, locals := 0 } : Room)
def f_X4_hasCoin (v0 : TBv) (p1 : Int32) : Option (Bool) :=
  if p1 < 0 then some false else if v0.1 ≤ p1 then some false else some true
set_option maxRecDepth 100000 in
set_option maxHeartbeats 4000000 in
theorem c_X4_hasCoin (l : Launch) (D : va_G) (cy : Nat → ClassId) (ad : (Nat → Nat) × (Nat → Nat)) (h0 : Nat) (h1 : Nat) (h2 : Nat) (h3 : Nat) (v0 : TBv) (p1 : Int32) {q : Bool} (hf : f_X4_hasCoin v0 p1 = some q) : CM l yX4_hasCoin cX4_hasCoin 2 (some .boolean) rmX4_hasCoin D cy ad [.ref h0, .int p1] [TB cy h0 h1 h2 h3 v0] (some (.int (b2i q))) [TB cy h0 h1 h2 h3 v0] := by
  refine cm_of (lv0 := [(0, .ref h0), (1, .int p1)]) (by decide) (Nat.le_of_ble_eq_true rfl) rfl ?_
  intro p e s m args below meth c A X hr hn
  have X : gK p s m args meth c A D cy ad cX4_hasCoin 2 RX4 := X
  unfold f_X4_hasCoin at hf
  refine g_iload_n X dX4_hasCoin_0 1 rfl rfl ?_
  refine g_if_lt X 16 dX4_hasCoin_1 (by decide) (fun c122 => ?_) (fun c122 => ?_)
  · have hf := opos c122 hf
    refine g_iconst X (0 : Int32) dX4_hasCoin_16 (by decide) ?_
    have hf := Option.some.inj hf
    subst hf
    exact g_zret (b := false) X hr dX4_hasCoin_17
  · have hf := oneg c122 hf
    refine g_iload_n X dX4_hasCoin_4 1 rfl rfl ?_
    refine g_aload_n X dX4_hasCoin_5 0 rfl rfl ?_
    refine g_get X dX4_hasCoin_6 ck_X4 0 0 0 rfl rfl (Nat.le_of_ble_eq_true rfl) lkf_X4_46 rfl ?_
    refine g_icmp_ge X 16 dX4_hasCoin_9 (by decide) (fun c121 => ?_) (fun c121 => ?_)
    · have hf := opos c121 hf
      refine g_iconst X (0 : Int32) dX4_hasCoin_16 (by decide) ?_
      have hf := Option.some.inj hf
      subst hf
      exact g_zret (b := false) X hr dX4_hasCoin_17
    · have hf := oneg c121 hf
      refine g_iconst X (1 : Int32) dX4_hasCoin_12 (by decide) ?_
      refine g_goto X 17 dX4_hasCoin_13 (by decide) ?_
      have hf := Option.some.inj hf
      subst hf
      exact g_zret (b := true) X hr dX4_hasCoin_17
abbrev rmX4_isFull : Room := ({ frames := 0, cells := 0, slots := 0, locals := 0 } : Room)
def f_X4_isFull (v0 : TBv) : Option (Bool) :=
  if v0.2.2.2.2.2.2.1 < (20 : Int32) then some false else some true
set_option maxRecDepth 100000 in
set_option maxHeartbeats 4000000 in
theorem c_X4_isFull (l : Launch) (D : va_G) (cy : Nat → ClassId) (ad : (Nat → Nat) × (Nat → Nat)) (h0 : Nat) (h1 : Nat) (h2 : Nat) (h3 : Nat) (v0 : TBv) {q : Bool} (hf : f_X4_isFull v0 = some q) : CM l yX4_isFull cX4_isFull 1 (some .boolean) rmX4_isFull D cy ad [.ref h0] [TB cy h0 h1 h2 h3 v0] (some (.int (b2i q))) [TB cy h0 h1 h2 h3 v0] := by
  refine cm_of (lv0 := [(0, .ref h0)]) (by decide) (Nat.le_of_ble_eq_true rfl) rfl ?_
  intro p e s m args below meth c A X hr hn
  have X : gK p s m args meth c A D cy ad cX4_isFull 1 RX4 := X
  unfold f_X4_isFull at hf
  refine g_aload_n X dX4_isFull_0 0 rfl rfl ?_
  refine g_get X dX4_isFull_1 ck_X4 0 0 6 rfl rfl (Nat.le_of_ble_eq_true rfl) lkf_X4_52 rfl ?_
  refine g_bipush X (20 : Int32) dX4_isFull_4 (by decide) ?_
  refine g_icmp_lt X 13 dX4_isFull_6 (by decide) (fun c123 => ?_) (fun c123 => ?_)
  · have hf := opos c123 hf
    refine g_iconst X (0 : Int32) dX4_isFull_13 (by decide) ?_
    have hf := Option.some.inj hf
    subst hf
    exact g_zret (b := false) X hr dX4_isFull_14
  · have hf := oneg c123 hf
    refine g_iconst X (1 : Int32) dX4_isFull_9 (by decide) ?_
    refine g_goto X 14 dX4_isFull_10 (by decide) ?_
    have hf := Option.some.inj hf
    subst hf
    exact g_zret (b := true) X hr dX4_isFull_14
abbrev rmX4_canWeigh : Room := ({ frames := 0, cells := 0, slots := 0, locals := 0 } : Room)
def f_X4_canWeigh (v0 : TBv) (p1 : Int32) (p2 : Int32) : Option (Bool) :=
  if ((p1 ||| p2) &&& ((((1 : Int32) <<< (v0.1 &&& 31)) - (1 : Int32)) ^^^ (-1 : Int32))) = 0 then if (p1 &&& p2) = 0 then if (p1 ||| p2) = 0 then some false else some true else some false else some false
set_option maxRecDepth 100000 in
set_option maxHeartbeats 4000000 in
theorem c_X4_canWeigh (l : Launch) (D : va_G) (cy : Nat → ClassId) (ad : (Nat → Nat) × (Nat → Nat)) (h0 : Nat) (h1 : Nat) (h2 : Nat) (h3 : Nat) (v0 : TBv) (p1 : Int32) (p2 : Int32) {q : Bool} (hf : f_X4_canWeigh v0 p1 p2 = some q) : CM l yX4_canWeigh cX4_canWeigh 4 (some .boolean) rmX4_canWeigh D cy ad [.ref h0, .int p1, .int p2] [TB cy h0 h1 h2 h3 v0] (some (.int (b2i q))) [TB cy h0 h1 h2 h3 v0] := by
  refine cm_of (lv0 := [(0, .ref h0), (1, .int p1), (2, .int p2)]) (by decide) (Nat.le_of_ble_eq_true rfl) rfl ?_
  intro p e s m args below meth c A X hr hn
  have X : gK p s m args meth c A D cy ad cX4_canWeigh 4 RX4 := X
  unfold f_X4_canWeigh at hf
  refine g_iconst X (1 : Int32) dX4_canWeigh_0 (by decide) ?_
  refine g_aload_n X dX4_canWeigh_1 0 rfl rfl ?_
  refine g_get X dX4_canWeigh_2 ck_X4 0 0 0 rfl rfl (Nat.le_of_ble_eq_true rfl) lkf_X4_46 rfl ?_
  refine g_ishl X dX4_canWeigh_5 ?_
  refine g_iconst X (1 : Int32) dX4_canWeigh_6 (by decide) ?_
  refine g_isub X dX4_canWeigh_7 ?_
  refine g_iconst X (-1 : Int32) dX4_canWeigh_8 (by decide) ?_
  refine g_ixor X dX4_canWeigh_9 ?_
  refine g_istore_n (lv' := [(0, .ref h0), (1, .int p1), (2, .int p2), (3, .int ((((1 : Int32) <<< (v0.1 &&& 31)) - (1 : Int32)) ^^^ (-1 : Int32)))]) X dX4_canWeigh_10 [1, 2, 3, 0] rfl (Nat.le_of_ble_eq_true rfl) rfl ?_
  refine g_iload_n X dX4_canWeigh_11 1 rfl rfl ?_
  refine g_iload_n X dX4_canWeigh_12 2 rfl rfl ?_
  refine g_ior X dX4_canWeigh_13 ?_
  refine g_iload_n X dX4_canWeigh_14 3 rfl rfl ?_
  refine g_iand X dX4_canWeigh_15 ?_
  refine g_if_ne X 35 dX4_canWeigh_16 (by decide) (fun c126 => ?_) (fun c126 => ?_)
  · have hf := oneg c126 hf
    refine g_iconst X (0 : Int32) dX4_canWeigh_35 (by decide) ?_
    have hf := Option.some.inj hf
    subst hf
    exact g_zret (b := false) X hr dX4_canWeigh_36
  · have hf := opos c126 hf
    refine g_iload_n X dX4_canWeigh_19 1 rfl rfl ?_
    refine g_iload_n X dX4_canWeigh_20 2 rfl rfl ?_
    refine g_iand X dX4_canWeigh_21 ?_
    refine g_if_ne X 35 dX4_canWeigh_22 (by decide) (fun c125 => ?_) (fun c125 => ?_)
    · have hf := oneg c125 hf
      refine g_iconst X (0 : Int32) dX4_canWeigh_35 (by decide) ?_
      have hf := Option.some.inj hf
      subst hf
      exact g_zret (b := false) X hr dX4_canWeigh_36
    · have hf := opos c125 hf
      refine g_iload_n X dX4_canWeigh_25 1 rfl rfl ?_
      refine g_iload_n X dX4_canWeigh_26 2 rfl rfl ?_
      refine g_ior X dX4_canWeigh_27 ?_
      refine g_if_eq X 35 dX4_canWeigh_28 (by decide) (fun c124 => ?_) (fun c124 => ?_)
      · have hf := opos c124 hf
        refine g_iconst X (0 : Int32) dX4_canWeigh_35 (by decide) ?_
        have hf := Option.some.inj hf
        subst hf
        exact g_zret (b := false) X hr dX4_canWeigh_36
      · have hf := oneg c124 hf
        refine g_iconst X (1 : Int32) dX4_canWeigh_31 (by decide) ?_
        refine g_goto X 36 dX4_canWeigh_32 (by decide) ?_
        have hf := Option.some.inj hf
        subst hf
        exact g_zret (b := true) X hr dX4_canWeigh_36
abbrev rmX4_tryArms : Room := ({ frames := 1, cells := 0, slots := 0, locals := 20 } : Room)
def f_X4_tryArms (v0 : TBv) (p1 : Int32) (p2 : Int32) : Option (Bool × TBv) :=
  (f_X7_isArm p1).bind (fun q133 => if (b2i q133) = 0 then some (false, v0) else (f_X7_isArm p2).bind (fun q134 => if (b2i q134) = 0 then some (false, v0) else some (true, (v0.1, v0.2.1, p1, p2, v0.2.2.2.2.1, v0.2.2.2.2.2.1, v0.2.2.2.2.2.2.1, v0.2.2.2.2.2.2.2))))
set_option maxRecDepth 100000 in
set_option maxHeartbeats 4000000 in
theorem c_X4_tryArms (l : Launch) (D : va_G) (cy : Nat → ClassId) (ad : (Nat → Nat) × (Nat → Nat)) (h0 : Nat) (h1 : Nat) (h2 : Nat) (h3 : Nat) (v0 : TBv) (p1 : Int32) (p2 : Int32) {q : Bool × TBv} (hf : f_X4_tryArms v0 p1 p2 = some q) : CM l yX4_tryArms cX4_tryArms 3 (some .boolean) rmX4_tryArms D cy ad [.ref h0, .int p1, .int p2] [TB cy h0 h1 h2 h3 v0] (some (.int (b2i q.1))) [TB cy h0 h1 h2 h3 q.2] := by
  refine cm_of (lv0 := [(0, .ref h0), (1, .int p1), (2, .int p2)]) (by decide) (Nat.le_of_ble_eq_true rfl) rfl ?_
  intro p e s m args below meth c A X hr hn
  have X : gK p s m args meth c A D cy ad cX4_tryArms 3 RX4 := X
  unfold f_X4_tryArms at hf
  refine g_iload_n X dX4_tryArms_0 1 rfl rfl ?_
  obtain ⟨q133, hq133, hf⟩ := obind hf
  refine g_callSN (gs' := [TB cy h0 h1 h2 h3 v0]) (rest := []) X dX4_tryArms_1 (c_X7_isArm l D cy ad p1 hq133) mf_X7_isArm ms_X7_isArm lkn_X4_67 ⟨(Nat.le_of_ble_eq_true rfl), (Nat.le_of_ble_eq_true rfl), (Nat.le_of_ble_eq_true rfl), (Nat.le_of_ble_eq_true rfl)⟩ [0] _ (by decide : [0].Perm (List.range 1)) rfl (by decide : [0].Perm (List.range 1)) rfl (Nat.le_of_ble_eq_true rfl) rfl ?_
  refine g_if_eq X 14 dX4_tryArms_4 (by decide) (fun c136 => ?_) (fun c136 => ?_)
  · have hf := opos c136 hf
    refine g_iconst X (0 : Int32) dX4_tryArms_14 (by decide) ?_
    have hf := Option.some.inj hf
    subst hf
    exact g_zret (b := false) X hr dX4_tryArms_15
  · have hf := oneg c136 hf
    refine g_iload_n X dX4_tryArms_7 2 rfl rfl ?_
    obtain ⟨q134, hq134, hf⟩ := obind hf
    refine g_callSN (gs' := [TB cy h0 h1 h2 h3 v0]) (rest := []) X dX4_tryArms_8 (c_X7_isArm l D cy ad p2 hq134) mf_X7_isArm ms_X7_isArm lkn_X4_67 ⟨(Nat.le_of_ble_eq_true rfl), (Nat.le_of_ble_eq_true rfl), (Nat.le_of_ble_eq_true rfl), (Nat.le_of_ble_eq_true rfl)⟩ [0] _ (by decide : [0].Perm (List.range 1)) rfl (by decide : [0].Perm (List.range 1)) rfl (Nat.le_of_ble_eq_true rfl) rfl ?_
    refine g_if_ne X 16 dX4_tryArms_11 (by decide) (fun c135 => ?_) (fun c135 => ?_)
    · have hf := oneg c135 hf
      refine g_aload_n X dX4_tryArms_16 0 rfl rfl ?_
      refine g_iload_n X dX4_tryArms_17 1 rfl rfl ?_
      refine g_put (gs' := [TB cy h0 h1 h2 h3 (v0.1, v0.2.1, p1, v0.2.2.2.1, v0.2.2.2.2.1, v0.2.2.2.2.2.1, v0.2.2.2.2.2.2.1, v0.2.2.2.2.2.2.2)]) X dX4_tryArms_18 ck_X4 ct_X4 0 0 2 rfl rfl (Nat.le_of_ble_eq_true rfl) lkf_X4_33 rfl rfl rfl (Nat.le_of_ble_eq_true rfl) rfl ?_
      refine g_aload_n X dX4_tryArms_21 0 rfl rfl ?_
      refine g_iload_n X dX4_tryArms_22 2 rfl rfl ?_
      refine g_put (gs' := [TB cy h0 h1 h2 h3 (v0.1, v0.2.1, p1, p2, v0.2.2.2.2.1, v0.2.2.2.2.2.1, v0.2.2.2.2.2.2.1, v0.2.2.2.2.2.2.2)]) X dX4_tryArms_23 ck_X4 ct_X4 0 0 3 rfl rfl (Nat.le_of_ble_eq_true rfl) lkf_X4_37 rfl rfl rfl (Nat.le_of_ble_eq_true rfl) rfl ?_
      refine g_iconst X (1 : Int32) dX4_tryArms_26 (by decide) ?_
      have hf := Option.some.inj hf
      subst hf
      exact g_zret (b := true) X hr dX4_tryArms_27
    · have hf := opos c135 hf
      refine g_iconst X (0 : Int32) dX4_tryArms_14 (by decide) ?_
      have hf := Option.some.inj hf
      subst hf
      exact g_zret (b := false) X hr dX4_tryArms_15
abbrev rmX4_write : Room := ({ frames := 0, cells := 0, slots := 0, locals := 0 } : Room)
def f_X4_write (v0 : TBv) (p1 : Int32) (p2 : Int32) (p3 : Int32) : Option (TBv) :=
  if (((6 : Int32) * p1) + p2) < 0 then some v0 else if (120 : Int32) ≤ (((6 : Int32) * p1) + p2) then some v0 else if (((6 : Int32) * p1) + p2) < 0 ∨ 120 ≤ (((6 : Int32) * p1) + p2).toNatClampNeg then none else some (v0.1, v0.2.1, v0.2.2.1, v0.2.2.2.1, v0.2.2.2.2.1, v0.2.2.2.2.2.1, v0.2.2.2.2.2.2.1, (upd v0.2.2.2.2.2.2.2 (((6 : Int32) * p1) + p2).toNatClampNeg p3))
set_option maxRecDepth 100000 in
set_option maxHeartbeats 4000000 in
theorem c_X4_write (l : Launch) (D : va_G) (cy : Nat → ClassId) (ad : (Nat → Nat) × (Nat → Nat)) (h0 : Nat) (h1 : Nat) (h2 : Nat) (h3 : Nat) (v0 : TBv) (p1 : Int32) (p2 : Int32) (p3 : Int32) {q : TBv} (hf : f_X4_write v0 p1 p2 p3 = some q) : CM l yX4_write cX4_write 5 none rmX4_write D cy ad [.ref h0, .int p1, .int p2, .int p3] [TB cy h0 h1 h2 h3 v0] none [TB cy h0 h1 h2 h3 q] := by
  refine cm_of (lv0 := [(0, .ref h0), (1, .int p1), (2, .int p2), (3, .int p3)]) (by decide) (Nat.le_of_ble_eq_true rfl) rfl ?_
  intro p e s m args below meth c A X hr hn
  have X : gK p s m args meth c A D cy ad cX4_write 5 RX4 := X
  unfold f_X4_write at hf
  refine g_bipush X (6 : Int32) dX4_write_0 (by decide) ?_
  refine g_iload_n X dX4_write_2 1 rfl rfl ?_
  refine g_imul X dX4_write_3 ?_
  refine g_iload_n X dX4_write_4 2 rfl rfl ?_
  refine g_iadd X dX4_write_5 ?_
  refine g_istore (lv' := [(0, .ref h0), (1, .int p1), (2, .int p2), (3, .int p3), (4, .int (((6 : Int32) * p1) + p2))]) X dX4_write_6 [1, 2, 3, 4, 0] (Nat.le_of_ble_eq_true rfl) rfl ?_
  refine g_iload X dX4_write_8 4 rfl ?_
  refine g_if_lt X 31 dX4_write_10 (by decide) (fun c141 => ?_) (fun c141 => ?_)
  · have hf := opos c141 hf
    have hf := Option.some.inj hf
    subst hf
    exact g_vret X hr dX4_write_31
  · have hf := oneg c141 hf
    refine g_iload X dX4_write_13 4 rfl ?_
    refine g_aload_n X dX4_write_15 0 rfl rfl ?_
    refine g_get X dX4_write_16 ck_X4 0 0 7 rfl rfl (Nat.le_of_ble_eq_true rfl) lkf_X4_9 rfl ?_
    refine g_alen0 (v := (120 : Int32)) X dX4_write_19 0 1 rfl rfl (by decide : Int32.ofNat 120 = (120 : Int32)) ?_
    refine g_icmp_ge X 31 dX4_write_20 (by decide) (fun c140 => ?_) (fun c140 => ?_)
    · have hf := opos c140 hf
      have hf := Option.some.inj hf
      subst hf
      exact g_vret X hr dX4_write_31
    · have hf := oneg c140 hf
      refine g_aload_n X dX4_write_23 0 rfl rfl ?_
      refine g_get X dX4_write_24 ck_X4 0 0 7 rfl rfl (Nat.le_of_ble_eq_true rfl) lkf_X4_9 rfl ?_
      refine g_iload X dX4_write_27 4 rfl ?_
      refine g_iload_n X dX4_write_29 3 rfl rfl ?_
      obtain ⟨n139, hf⟩ := oguard hf
      refine g_iastore (gs' := [TB cy h0 h1 h2 h3 (v0.1, v0.2.1, v0.2.2.1, v0.2.2.2.1, v0.2.2.2.2.1, v0.2.2.2.2.2.1, v0.2.2.2.2.2.2.1, (upd v0.2.2.2.2.2.2.2 (((6 : Int32) * p1) + p2).toNatClampNeg p3))]) X dX4_write_30 0 1 rfl rfl n139 rfl ?_
      have hf := Option.some.inj hf
      subst hf
      exact g_vret X hr dX4_write_31
abbrev rmX4_tryWeighing : Room := ({ frames := 2, cells := 0, slots := 0, locals := 50 } : Room)
def f_X4_tryWeighing (v0 : TBv) (v1 : Fn) (v2 : SCv) (p1 : Int32) (p2 : Int32) : Option (Bool × TBv × Fn × SCv) :=
  (f_X4_canWeigh v0 p1 p2).bind (fun q166 => if (b2i q166) = 0 then some (false, v0, v1, v2) else (f_X4_isFull v0).bind (fun q167 => if (b2i q167) = 0 then (f_X1_set v2 p1 p2 v0.2.2.1 v0.2.2.2.1).bind (fun q168 => (f_X1_outcomeInCase q168 v0.2.1).bind (fun q169 => (f_X3_keep v1 q168 q169).bind (fun q170 => (f_X4_write (v0.1, v0.2.1, v0.2.2.1, v0.2.2.2.1, v0.2.2.2.2.1, v0.2.2.2.2.2.1, (v0.2.2.2.2.2.2.1 + (1 : Int32)), v0.2.2.2.2.2.2.2) v0.2.2.2.2.2.2.1 (0 : Int32) p1).bind (fun q171 => (f_X4_write q171 v0.2.2.2.2.2.2.1 (1 : Int32) p2).bind (fun q172 => (f_X4_write q172 v0.2.2.2.2.2.2.1 (2 : Int32) q169).bind (fun q173 => (f_X4_write q173 v0.2.2.2.2.2.2.1 (3 : Int32) q173.2.2.1).bind (fun q174 => (f_X4_write q174 v0.2.2.2.2.2.2.1 (4 : Int32) q174.2.2.2.1).bind (fun q175 => (f_X3_count q170).bind (fun q176 => (f_X4_write q175 v0.2.2.2.2.2.2.1 (5 : Int32) q176).bind (fun q177 => some (true, q177, q170, q168))))))))))) else some (false, v0, v1, v2)))
set_option maxRecDepth 100000 in
set_option maxHeartbeats 4000000 in
theorem c_X4_tryWeighing (l : Launch) (D : va_G) (cy : Nat → ClassId) (ad : (Nat → Nat) × (Nat → Nat)) (h0 : Nat) (h1 : Nat) (h2 : Nat) (h3 : Nat) (h4 : Nat) (v0 : TBv) (v1 : Fn) (v2 : SCv) (p1 : Int32) (p2 : Int32) {q : Bool × TBv × Fn × SCv} (hf : f_X4_tryWeighing v0 v1 v2 p1 p2 = some q) : CM l yX4_tryWeighing cX4_tryWeighing 5 (some .boolean) rmX4_tryWeighing D cy ad [.ref h0, .int p1, .int p2] [TB cy h0 h1 h2 h3 v0, SU cy h2 h4 v1, SC h3 v2] (some (.int (b2i q.1))) [TB cy h0 h1 h2 h3 q.2.1, SU cy h2 h4 q.2.2.1, SC h3 q.2.2.2] := by
  refine cm_of (lv0 := [(0, .ref h0), (1, .int p1), (2, .int p2)]) (by decide) (Nat.le_of_ble_eq_true rfl) rfl ?_
  intro p e s m args below meth c A X hr hn
  have X : gK p s m args meth c A D cy ad cX4_tryWeighing 5 RX4 := X
  unfold f_X4_tryWeighing at hf
  refine g_aload_n X dX4_tryWeighing_0 0 rfl rfl ?_
  refine g_iload_n X dX4_tryWeighing_1 1 rfl rfl ?_
  refine g_iload_n X dX4_tryWeighing_2 2 rfl rfl ?_
  obtain ⟨q166, hq166, hf⟩ := obind hf
  refine g_callV (gs' := [TB cy h0 h1 h2 h3 v0, SU cy h2 h4 v1, SC h3 v2]) (rest := []) X dX4_tryWeighing_3 (c_X4_canWeigh l D cy ad h0 h1 h2 h3 v0 p1 p2 hq166) mf_X4_canWeigh mv_X4_canWeigh lkm_X4_71 ⟨(Nat.le_of_ble_eq_true rfl), (Nat.le_of_ble_eq_true rfl), (Nat.le_of_ble_eq_true rfl), (Nat.le_of_ble_eq_true rfl)⟩ 0 0 rfl rfl rfl rfl [0, 1, 2] _ (by decide : [0, 1, 2].Perm (List.range 3)) rfl (by decide : [0, 1, 2].Perm (List.range 3)) rfl (Nat.le_of_ble_eq_true rfl) rfl ?_
  refine g_if_eq X 16 dX4_tryWeighing_6 (by decide) (fun c179 => ?_) (fun c179 => ?_)
  · have hf := opos c179 hf
    refine g_iconst X (0 : Int32) dX4_tryWeighing_16 (by decide) ?_
    have hf := Option.some.inj hf
    subst hf
    exact g_zret (b := false) X hr dX4_tryWeighing_17
  · have hf := oneg c179 hf
    refine g_aload_n X dX4_tryWeighing_9 0 rfl rfl ?_
    obtain ⟨q167, hq167, hf⟩ := obind hf
    refine g_callV (gs' := [TB cy h0 h1 h2 h3 v0, SU cy h2 h4 v1, SC h3 v2]) (rest := []) X dX4_tryWeighing_10 (c_X4_isFull l D cy ad h0 h1 h2 h3 v0 hq167) mf_X4_isFull mv_X4_isFull lkm_X4_75 ⟨(Nat.le_of_ble_eq_true rfl), (Nat.le_of_ble_eq_true rfl), (Nat.le_of_ble_eq_true rfl), (Nat.le_of_ble_eq_true rfl)⟩ 0 0 rfl rfl rfl rfl [0, 1, 2] _ (by decide : [0, 1, 2].Perm (List.range 3)) rfl (by decide : [0, 1, 2].Perm (List.range 3)) rfl (Nat.le_of_ble_eq_true rfl) rfl ?_
    refine g_if_eq X 18 dX4_tryWeighing_13 (by decide) (fun c178 => ?_) (fun c178 => ?_)
    · have hf := opos c178 hf
      refine g_aload_n X dX4_tryWeighing_18 0 rfl rfl ?_
      refine g_get X dX4_tryWeighing_19 ck_X4 0 0 9 rfl rfl (Nat.le_of_ble_eq_true rfl) lkf_X4_25 rfl ?_
      refine g_iload_n X dX4_tryWeighing_22 1 rfl rfl ?_
      refine g_iload_n X dX4_tryWeighing_23 2 rfl rfl ?_
      refine g_aload_n X dX4_tryWeighing_24 0 rfl rfl ?_
      refine g_get X dX4_tryWeighing_25 ck_X4 0 0 2 rfl rfl (Nat.le_of_ble_eq_true rfl) lkf_X4_33 rfl ?_
      refine g_aload_n X dX4_tryWeighing_28 0 rfl rfl ?_
      refine g_get X dX4_tryWeighing_29 ck_X4 0 0 3 rfl rfl (Nat.le_of_ble_eq_true rfl) lkf_X4_37 rfl ?_
      obtain ⟨q168, hq168, hf⟩ := obind hf
      refine g_callV (gs' := [TB cy h0 h1 h2 h3 v0, SU cy h2 h4 v1, SC h3 q168]) (rest := []) X dX4_tryWeighing_32 (c_X1_set l D cy ad h3 v2 p1 p2 v0.2.2.1 v0.2.2.2.1 hq168) mf_X1_set mv_X1_set lkm_X4_79 ⟨(Nat.le_of_ble_eq_true rfl), (Nat.le_of_ble_eq_true rfl), (Nat.le_of_ble_eq_true rfl), (Nat.le_of_ble_eq_true rfl)⟩ 2 0 rfl rfl rfl rfl [2, 0, 1] _ (by decide : [2, 0, 1].Perm (List.range 3)) rfl (by decide : [2, 0, 1].Perm (List.range 3)) rfl (Nat.le_of_ble_eq_true rfl) rfl ?_
      refine g_aload_n X dX4_tryWeighing_35 0 rfl rfl ?_
      refine g_get X dX4_tryWeighing_36 ck_X4 0 0 9 rfl rfl (Nat.le_of_ble_eq_true rfl) lkf_X4_25 rfl ?_
      refine g_aload_n X dX4_tryWeighing_39 0 rfl rfl ?_
      refine g_get X dX4_tryWeighing_40 ck_X4 0 0 1 rfl rfl (Nat.le_of_ble_eq_true rfl) lkf_X4_49 rfl ?_
      obtain ⟨q169, hq169, hf⟩ := obind hf
      refine g_callV (gs' := [TB cy h0 h1 h2 h3 v0, SU cy h2 h4 v1, SC h3 q168]) (rest := []) X dX4_tryWeighing_43 (c_X1_outcomeInCase l D cy ad h3 q168 v0.2.1 hq169) mf_X1_outcomeInCase mv_X1_outcomeInCase lkm_X4_83 ⟨(Nat.le_of_ble_eq_true rfl), (Nat.le_of_ble_eq_true rfl), (Nat.le_of_ble_eq_true rfl), (Nat.le_of_ble_eq_true rfl)⟩ 2 0 rfl rfl rfl rfl [2, 0, 1] _ (by decide : [2, 0, 1].Perm (List.range 3)) rfl (by decide : [2, 0, 1].Perm (List.range 3)) rfl (Nat.le_of_ble_eq_true rfl) rfl ?_
      refine g_istore_n (lv' := [(0, .ref h0), (1, .int p1), (2, .int p2), (3, .int q169)]) X dX4_tryWeighing_46 [1, 2, 3, 0] rfl (Nat.le_of_ble_eq_true rfl) rfl ?_
      refine g_aload_n X dX4_tryWeighing_47 0 rfl rfl ?_
      refine g_get X dX4_tryWeighing_48 ck_X4 0 0 8 rfl rfl (Nat.le_of_ble_eq_true rfl) lkf_X4_18 rfl ?_
      refine g_aload_n X dX4_tryWeighing_51 0 rfl rfl ?_
      refine g_get X dX4_tryWeighing_52 ck_X4 0 0 9 rfl rfl (Nat.le_of_ble_eq_true rfl) lkf_X4_25 rfl ?_
      refine g_iload_n X dX4_tryWeighing_55 3 rfl rfl ?_
      obtain ⟨q170, hq170, hf⟩ := obind hf
      refine g_callV (gs' := [TB cy h0 h1 h2 h3 v0, SU cy h2 h4 q170, SC h3 q168]) (rest := []) X dX4_tryWeighing_56 (c_X3_keep l D cy ad h2 h4 h3 v1 q168 q169 hq170) mf_X3_keep mv_X3_keep lkm_X4_86 ⟨(Nat.le_of_ble_eq_true rfl), (Nat.le_of_ble_eq_true rfl), (Nat.le_of_ble_eq_true rfl), (Nat.le_of_ble_eq_true rfl)⟩ 1 0 rfl rfl rfl rfl [1, 2, 0] _ (by decide : [1, 2, 0].Perm (List.range 3)) rfl (by decide : [1, 2, 0].Perm (List.range 3)) rfl (Nat.le_of_ble_eq_true rfl) rfl ?_
      refine g_aload_n X dX4_tryWeighing_59 0 rfl rfl ?_
      refine g_get X dX4_tryWeighing_60 ck_X4 0 0 6 rfl rfl (Nat.le_of_ble_eq_true rfl) lkf_X4_52 rfl ?_
      refine g_istore (lv' := [(0, .ref h0), (1, .int p1), (2, .int p2), (3, .int q169), (4, .int v0.2.2.2.2.2.2.1)]) X dX4_tryWeighing_63 [1, 2, 3, 4, 0] (Nat.le_of_ble_eq_true rfl) rfl ?_
      refine g_aload_n X dX4_tryWeighing_65 0 rfl rfl ?_
      refine g_dup X dX4_tryWeighing_66 rfl ?_
      refine g_get X dX4_tryWeighing_67 ck_X4 0 0 6 rfl rfl (Nat.le_of_ble_eq_true rfl) lkf_X4_52 rfl ?_
      refine g_iconst X (1 : Int32) dX4_tryWeighing_70 (by decide) ?_
      refine g_iadd X dX4_tryWeighing_71 ?_
      refine g_put (gs' := [TB cy h0 h1 h2 h3 (v0.1, v0.2.1, v0.2.2.1, v0.2.2.2.1, v0.2.2.2.2.1, v0.2.2.2.2.2.1, (v0.2.2.2.2.2.2.1 + (1 : Int32)), v0.2.2.2.2.2.2.2), SU cy h2 h4 q170, SC h3 q168]) X dX4_tryWeighing_72 ck_X4 ct_X4 0 0 6 rfl rfl (Nat.le_of_ble_eq_true rfl) lkf_X4_52 rfl rfl rfl (Nat.le_of_ble_eq_true rfl) rfl ?_
      refine g_aload_n X dX4_tryWeighing_75 0 rfl rfl ?_
      refine g_iload X dX4_tryWeighing_76 4 rfl ?_
      refine g_iconst X (0 : Int32) dX4_tryWeighing_78 (by decide) ?_
      refine g_iload_n X dX4_tryWeighing_79 1 rfl rfl ?_
      obtain ⟨q171, hq171, hf⟩ := obind hf
      refine g_callV (gs' := [TB cy h0 h1 h2 h3 q171, SU cy h2 h4 q170, SC h3 q168]) (rest := []) X dX4_tryWeighing_80 (c_X4_write l D cy ad h0 h1 h2 h3 (v0.1, v0.2.1, v0.2.2.1, v0.2.2.2.1, v0.2.2.2.2.1, v0.2.2.2.2.2.1, (v0.2.2.2.2.2.2.1 + (1 : Int32)), v0.2.2.2.2.2.2.2) v0.2.2.2.2.2.2.1 (0 : Int32) p1 hq171) mf_X4_write mv_X4_write lkm_X4_90 ⟨(Nat.le_of_ble_eq_true rfl), (Nat.le_of_ble_eq_true rfl), (Nat.le_of_ble_eq_true rfl), (Nat.le_of_ble_eq_true rfl)⟩ 0 0 rfl rfl rfl rfl [0, 1, 2] _ (by decide : [0, 1, 2].Perm (List.range 3)) rfl (by decide : [0, 1, 2].Perm (List.range 3)) rfl (Nat.le_of_ble_eq_true rfl) rfl ?_
      refine g_aload_n X dX4_tryWeighing_83 0 rfl rfl ?_
      refine g_iload X dX4_tryWeighing_84 4 rfl ?_
      refine g_iconst X (1 : Int32) dX4_tryWeighing_86 (by decide) ?_
      refine g_iload_n X dX4_tryWeighing_87 2 rfl rfl ?_
      obtain ⟨q172, hq172, hf⟩ := obind hf
      refine g_callV (gs' := [TB cy h0 h1 h2 h3 q172, SU cy h2 h4 q170, SC h3 q168]) (rest := []) X dX4_tryWeighing_88 (c_X4_write l D cy ad h0 h1 h2 h3 q171 v0.2.2.2.2.2.2.1 (1 : Int32) p2 hq172) mf_X4_write mv_X4_write lkm_X4_90 ⟨(Nat.le_of_ble_eq_true rfl), (Nat.le_of_ble_eq_true rfl), (Nat.le_of_ble_eq_true rfl), (Nat.le_of_ble_eq_true rfl)⟩ 0 0 rfl rfl rfl rfl [0, 1, 2] _ (by decide : [0, 1, 2].Perm (List.range 3)) rfl (by decide : [0, 1, 2].Perm (List.range 3)) rfl (Nat.le_of_ble_eq_true rfl) rfl ?_
      refine g_aload_n X dX4_tryWeighing_91 0 rfl rfl ?_
      refine g_iload X dX4_tryWeighing_92 4 rfl ?_
      refine g_iconst X (2 : Int32) dX4_tryWeighing_94 (by decide) ?_
      refine g_iload_n X dX4_tryWeighing_95 3 rfl rfl ?_
      obtain ⟨q173, hq173, hf⟩ := obind hf
      refine g_callV (gs' := [TB cy h0 h1 h2 h3 q173, SU cy h2 h4 q170, SC h3 q168]) (rest := []) X dX4_tryWeighing_96 (c_X4_write l D cy ad h0 h1 h2 h3 q172 v0.2.2.2.2.2.2.1 (2 : Int32) q169 hq173) mf_X4_write mv_X4_write lkm_X4_90 ⟨(Nat.le_of_ble_eq_true rfl), (Nat.le_of_ble_eq_true rfl), (Nat.le_of_ble_eq_true rfl), (Nat.le_of_ble_eq_true rfl)⟩ 0 0 rfl rfl rfl rfl [0, 1, 2] _ (by decide : [0, 1, 2].Perm (List.range 3)) rfl (by decide : [0, 1, 2].Perm (List.range 3)) rfl (Nat.le_of_ble_eq_true rfl) rfl ?_
      refine g_aload_n X dX4_tryWeighing_99 0 rfl rfl ?_
      refine g_iload X dX4_tryWeighing_100 4 rfl ?_
      refine g_iconst X (3 : Int32) dX4_tryWeighing_102 (by decide) ?_
      refine g_aload_n X dX4_tryWeighing_103 0 rfl rfl ?_
      refine g_get X dX4_tryWeighing_104 ck_X4 0 0 2 rfl rfl (Nat.le_of_ble_eq_true rfl) lkf_X4_33 rfl ?_
      obtain ⟨q174, hq174, hf⟩ := obind hf
      refine g_callV (gs' := [TB cy h0 h1 h2 h3 q174, SU cy h2 h4 q170, SC h3 q168]) (rest := []) X dX4_tryWeighing_107 (c_X4_write l D cy ad h0 h1 h2 h3 q173 v0.2.2.2.2.2.2.1 (3 : Int32) q173.2.2.1 hq174) mf_X4_write mv_X4_write lkm_X4_90 ⟨(Nat.le_of_ble_eq_true rfl), (Nat.le_of_ble_eq_true rfl), (Nat.le_of_ble_eq_true rfl), (Nat.le_of_ble_eq_true rfl)⟩ 0 0 rfl rfl rfl rfl [0, 1, 2] _ (by decide : [0, 1, 2].Perm (List.range 3)) rfl (by decide : [0, 1, 2].Perm (List.range 3)) rfl (Nat.le_of_ble_eq_true rfl) rfl ?_
      refine g_aload_n X dX4_tryWeighing_110 0 rfl rfl ?_
      refine g_iload X dX4_tryWeighing_111 4 rfl ?_
      refine g_iconst X (4 : Int32) dX4_tryWeighing_113 (by decide) ?_
      refine g_aload_n X dX4_tryWeighing_114 0 rfl rfl ?_
      refine g_get X dX4_tryWeighing_115 ck_X4 0 0 3 rfl rfl (Nat.le_of_ble_eq_true rfl) lkf_X4_37 rfl ?_
      obtain ⟨q175, hq175, hf⟩ := obind hf
      refine g_callV (gs' := [TB cy h0 h1 h2 h3 q175, SU cy h2 h4 q170, SC h3 q168]) (rest := []) X dX4_tryWeighing_118 (c_X4_write l D cy ad h0 h1 h2 h3 q174 v0.2.2.2.2.2.2.1 (4 : Int32) q174.2.2.2.1 hq175) mf_X4_write mv_X4_write lkm_X4_90 ⟨(Nat.le_of_ble_eq_true rfl), (Nat.le_of_ble_eq_true rfl), (Nat.le_of_ble_eq_true rfl), (Nat.le_of_ble_eq_true rfl)⟩ 0 0 rfl rfl rfl rfl [0, 1, 2] _ (by decide : [0, 1, 2].Perm (List.range 3)) rfl (by decide : [0, 1, 2].Perm (List.range 3)) rfl (Nat.le_of_ble_eq_true rfl) rfl ?_
      refine g_aload_n X dX4_tryWeighing_121 0 rfl rfl ?_
      refine g_iload X dX4_tryWeighing_122 4 rfl ?_
      refine g_iconst X (5 : Int32) dX4_tryWeighing_124 (by decide) ?_
      refine g_aload_n X dX4_tryWeighing_125 0 rfl rfl ?_
      refine g_get X dX4_tryWeighing_126 ck_X4 0 0 8 rfl rfl (Nat.le_of_ble_eq_true rfl) lkf_X4_18 rfl ?_
      obtain ⟨q176, hq176, hf⟩ := obind hf
      refine g_callV (gs' := [TB cy h0 h1 h2 h3 q175, SU cy h2 h4 q170, SC h3 q168]) (rest := [.int (5 : Int32), .int v0.2.2.2.2.2.2.1, .ref h0]) X dX4_tryWeighing_129 (c_X3_count l D cy ad h2 h4 q170 hq176) mf_X3_count mv_X3_count lkm_X4_94 ⟨(Nat.le_of_ble_eq_true rfl), (Nat.le_of_ble_eq_true rfl), (Nat.le_of_ble_eq_true rfl), (Nat.le_of_ble_eq_true rfl)⟩ 1 0 rfl rfl rfl rfl [1, 0, 2] _ (by decide : [1, 0, 2].Perm (List.range 3)) rfl (by decide : [1, 0, 2].Perm (List.range 3)) rfl (Nat.le_of_ble_eq_true rfl) rfl ?_
      obtain ⟨q177, hq177, hf⟩ := obind hf
      refine g_callV (gs' := [TB cy h0 h1 h2 h3 q177, SU cy h2 h4 q170, SC h3 q168]) (rest := []) X dX4_tryWeighing_132 (c_X4_write l D cy ad h0 h1 h2 h3 q175 v0.2.2.2.2.2.2.1 (5 : Int32) q176 hq177) mf_X4_write mv_X4_write lkm_X4_90 ⟨(Nat.le_of_ble_eq_true rfl), (Nat.le_of_ble_eq_true rfl), (Nat.le_of_ble_eq_true rfl), (Nat.le_of_ble_eq_true rfl)⟩ 0 0 rfl rfl rfl rfl [0, 1, 2] _ (by decide : [0, 1, 2].Perm (List.range 3)) rfl (by decide : [0, 1, 2].Perm (List.range 3)) rfl (Nat.le_of_ble_eq_true rfl) rfl ?_
      refine g_iconst X (1 : Int32) dX4_tryWeighing_135 (by decide) ?_
      have hf := Option.some.inj hf
      subst hf
      exact g_zret (b := true) X hr dX4_tryWeighing_136
    · have hf := oneg c178 hf
      refine g_iconst X (0 : Int32) dX4_tryWeighing_16 (by decide) ?_
      have hf := Option.some.inj hf
      subst hf
      exact g_zret (b := false) X hr dX4_tryWeighing_17
abbrev rmX4_kept : Room := ({ frames := 0, cells := 0, slots := 0, locals := 0 } : Room)
def f_X4_kept (v0 : TBv) (p1 : Int32) (p2 : Int32) : Option (Int32) :=
  if (((6 : Int32) * p1) + p2) < 0 then some (0 : Int32) else if (120 : Int32) ≤ (((6 : Int32) * p1) + p2) then some (0 : Int32) else if (((6 : Int32) * p1) + p2) < 0 ∨ 120 ≤ (((6 : Int32) * p1) + p2).toNatClampNeg then none else some (v0.2.2.2.2.2.2.2 (((6 : Int32) * p1) + p2).toNatClampNeg)
set_option maxRecDepth 100000 in
set_option maxHeartbeats 4000000 in
theorem c_X4_kept (l : Launch) (D : va_G) (cy : Nat → ClassId) (ad : (Nat → Nat) × (Nat → Nat)) (h0 : Nat) (h1 : Nat) (h2 : Nat) (h3 : Nat) (v0 : TBv) (p1 : Int32) (p2 : Int32) {q : Int32} (hf : f_X4_kept v0 p1 p2 = some q) : CM l yX4_kept cX4_kept 4 (some .int) rmX4_kept D cy ad [.ref h0, .int p1, .int p2] [TB cy h0 h1 h2 h3 v0] (some (.int q)) [TB cy h0 h1 h2 h3 v0] := by
  refine cm_of (lv0 := [(0, .ref h0), (1, .int p1), (2, .int p2)]) (by decide) (Nat.le_of_ble_eq_true rfl) rfl ?_
  intro p e s m args below meth c A X hr hn
  have X : gK p s m args meth c A D cy ad cX4_kept 4 RX4 := X
  unfold f_X4_kept at hf
  refine g_bipush X (6 : Int32) dX4_kept_0 (by decide) ?_
  refine g_iload_n X dX4_kept_2 1 rfl rfl ?_
  refine g_imul X dX4_kept_3 ?_
  refine g_iload_n X dX4_kept_4 2 rfl rfl ?_
  refine g_iadd X dX4_kept_5 ?_
  refine g_istore_n (lv' := [(0, .ref h0), (1, .int p1), (2, .int p2), (3, .int (((6 : Int32) * p1) + p2))]) X dX4_kept_6 [1, 2, 3, 0] rfl (Nat.le_of_ble_eq_true rfl) rfl ?_
  refine g_iload_n X dX4_kept_7 3 rfl rfl ?_
  refine g_if_lt X 29 dX4_kept_8 (by decide) (fun c184 => ?_) (fun c184 => ?_)
  · have hf := opos c184 hf
    refine g_iconst X (0 : Int32) dX4_kept_29 (by decide) ?_
    have hf := Option.some.inj hf
    subst hf
    exact g_iret X hr dX4_kept_30
  · have hf := oneg c184 hf
    refine g_iload_n X dX4_kept_11 3 rfl rfl ?_
    refine g_aload_n X dX4_kept_12 0 rfl rfl ?_
    refine g_get X dX4_kept_13 ck_X4 0 0 7 rfl rfl (Nat.le_of_ble_eq_true rfl) lkf_X4_9 rfl ?_
    refine g_alen0 (v := (120 : Int32)) X dX4_kept_16 0 1 rfl rfl (by decide : Int32.ofNat 120 = (120 : Int32)) ?_
    refine g_icmp_ge X 29 dX4_kept_17 (by decide) (fun c183 => ?_) (fun c183 => ?_)
    · have hf := opos c183 hf
      refine g_iconst X (0 : Int32) dX4_kept_29 (by decide) ?_
      have hf := Option.some.inj hf
      subst hf
      exact g_iret X hr dX4_kept_30
    · have hf := oneg c183 hf
      refine g_aload_n X dX4_kept_20 0 rfl rfl ?_
      refine g_get X dX4_kept_21 ck_X4 0 0 7 rfl rfl (Nat.le_of_ble_eq_true rfl) lkf_X4_9 rfl ?_
      refine g_iload_n X dX4_kept_24 3 rfl rfl ?_
      obtain ⟨n182, hf⟩ := oguard hf
      refine g_iaload X dX4_kept_25 0 1 rfl rfl n182 ?_
      refine g_goto X 30 dX4_kept_26 (by decide) ?_
      have hf := Option.some.inj hf
      subst hf
      exact g_iret X hr dX4_kept_30
abbrev rmX4_lastOutcome : Room := ({ frames := 1, cells := 0, slots := 0, locals := 23 } : Room)
def f_X4_lastOutcome (v0 : TBv) : Option (Int32) :=
  (f_X4_kept v0 (v0.2.2.2.2.2.2.1 - (1 : Int32)) (2 : Int32)).bind (fun q187 => some q187)
set_option maxRecDepth 100000 in
set_option maxHeartbeats 4000000 in
theorem c_X4_lastOutcome (l : Launch) (D : va_G) (cy : Nat → ClassId) (ad : (Nat → Nat) × (Nat → Nat)) (h0 : Nat) (h1 : Nat) (h2 : Nat) (h3 : Nat) (v0 : TBv) {q : Int32} (hf : f_X4_lastOutcome v0 = some q) : CM l yX4_lastOutcome cX4_lastOutcome 1 (some .int) rmX4_lastOutcome D cy ad [.ref h0] [TB cy h0 h1 h2 h3 v0] (some (.int q)) [TB cy h0 h1 h2 h3 v0] := by
  refine cm_of (lv0 := [(0, .ref h0)]) (by decide) (Nat.le_of_ble_eq_true rfl) rfl ?_
  intro p e s m args below meth c A X hr hn
  have X : gK p s m args meth c A D cy ad cX4_lastOutcome 1 RX4 := X
  unfold f_X4_lastOutcome at hf
  refine g_aload_n X dX4_lastOutcome_0 0 rfl rfl ?_
  refine g_aload_n X dX4_lastOutcome_1 0 rfl rfl ?_
  refine g_get X dX4_lastOutcome_2 ck_X4 0 0 6 rfl rfl (Nat.le_of_ble_eq_true rfl) lkf_X4_52 rfl ?_
  refine g_iconst X (1 : Int32) dX4_lastOutcome_5 (by decide) ?_
  refine g_isub X dX4_lastOutcome_6 ?_
  refine g_iconst X (2 : Int32) dX4_lastOutcome_7 (by decide) ?_
  obtain ⟨q187, hq187, hf⟩ := obind hf
  refine g_callV (gs' := [TB cy h0 h1 h2 h3 v0]) (rest := []) X dX4_lastOutcome_8 (c_X4_kept l D cy ad h0 h1 h2 h3 v0 (v0.2.2.2.2.2.2.1 - (1 : Int32)) (2 : Int32) hq187) mf_X4_kept mv_X4_kept lkm_X4_98 ⟨(Nat.le_of_ble_eq_true rfl), (Nat.le_of_ble_eq_true rfl), (Nat.le_of_ble_eq_true rfl), (Nat.le_of_ble_eq_true rfl)⟩ 0 0 rfl rfl rfl rfl [0] _ (by decide : [0].Perm (List.range 1)) rfl (by decide : [0].Perm (List.range 1)) rfl (Nat.le_of_ble_eq_true rfl) rfl ?_
  have hf := Option.some.inj hf
  subst hf
  exact g_iret X hr dX4_lastOutcome_11
abbrev rmX4_tryForgetting : Room := ({ frames := 2, cells := 0, slots := 0, locals := 50 } : Room)
def f_X4_tryForgetting_B32 (v0 : TBv) (z : Int32 × Fn × SCv) : Option ((Int32 × Fn × SCv) ⊕ ((Fn × SCv))) :=
  if v0.2.2.2.2.2.2.1 ≤ z.1 then some (.inr ((z.2.1, z.2.2))) else (f_X4_kept v0 z.1 (0 : Int32)).bind (fun q205 => (f_X4_kept v0 z.1 (1 : Int32)).bind (fun q206 => (f_X4_kept v0 z.1 (3 : Int32)).bind (fun q207 => (f_X4_kept v0 z.1 (4 : Int32)).bind (fun q208 => (f_X1_set z.2.2 q205 q206 q207 q208).bind (fun q209 => (f_X4_kept v0 z.1 (2 : Int32)).bind (fun q210 => (f_X3_keep z.2.1 q209 q210).bind (fun q211 => some (.inl ((z.1 + (1 : Int32)), q211, q209)))))))))
set_option maxRecDepth 100000 in
set_option maxHeartbeats 4000000 in
theorem b_X4_tryForgetting_B32 {p : Program} {l : Launch} {e : Env} {s : State} {m : MethodId} {args : Array Value} {below : List Frame} {meth : Method} {c : Code} {A : Nat → Prop} {D : va_G} {cy : Nat → ClassId} {ad : (Nat → Nat) × (Nat → Nat)} {Q : State → Prop} (X : gK p s m args meth c A D cy ad cX4_tryForgetting 2 RX4) (hr : meth.sig.returnType = (some .boolean)) {h0 h1 h2 h3 h4 : Nat} (v0 : TBv) (z : Int32 × Fn × SCv) {q : (Int32 × Fn × SCv) ⊕ ((Fn × SCv))} (hf : f_X4_tryForgetting_B32 v0 z = some q) (K1 : ∀ s' : Int32 × Fn × SCv, q = .inl s' → GW p l e rmX4_tryForgetting s m args below meth c A D 2 0 0 Q 32 [(0, .ref h0), (1, .int s'.1)] [] [TB cy h0 h1 h2 h3 v0, SU cy h2 h4 s'.2.1, SC h3 (s'.2.2.1, s'.2.2.2.1, s'.2.2.2.2.1, s'.2.2.2.2.2.1, s'.2.2.2.2.2.2.1, s'.2.2.2.2.2.2.2)]) (K2 : ∀ e' : Fn × SCv, q = .inr (e') → GW p l e rmX4_tryForgetting s m args below meth c A D 2 0 0 Q 94 [] [] [TB cy h0 h1 h2 h3 v0, SU cy h2 h4 e'.1, SC h3 (e'.2.1, e'.2.2.1, e'.2.2.2.1, e'.2.2.2.2.1, e'.2.2.2.2.2.1, e'.2.2.2.2.2.2)]) : GW p l e rmX4_tryForgetting s m args below meth c A D 2 0 0 Q 32 [(0, .ref h0), (1, .int z.1)] [] [TB cy h0 h1 h2 h3 v0, SU cy h2 h4 z.2.1, SC h3 z.2.2] := by
  unfold f_X4_tryForgetting_B32 at hf
  refine g_iload_n X dX4_tryForgetting_32 1 rfl rfl ?_
  refine g_aload_n X dX4_tryForgetting_33 0 rfl rfl ?_
  refine g_get X dX4_tryForgetting_34 ck_X4 0 0 6 rfl rfl (Nat.le_of_ble_eq_true rfl) lkf_X4_52 rfl ?_
  refine g_icmp_ge X 94 dX4_tryForgetting_37 (by decide) (fun c212 => ?_) (fun c212 => ?_)
  · have hf := opos c212 hf
    refine g_sub [] (lv' := []) rfl ?_
    exact K2 (z.2.1, z.2.2) (Option.some.inj hf).symm
  · have hf := oneg c212 hf
    refine g_aload_n X dX4_tryForgetting_40 0 rfl rfl ?_
    refine g_get X dX4_tryForgetting_41 ck_X4 0 0 9 rfl rfl (Nat.le_of_ble_eq_true rfl) lkf_X4_25 rfl ?_
    refine g_aload_n X dX4_tryForgetting_44 0 rfl rfl ?_
    refine g_iload_n X dX4_tryForgetting_45 1 rfl rfl ?_
    refine g_iconst X (0 : Int32) dX4_tryForgetting_46 (by decide) ?_
    obtain ⟨q205, hq205, hf⟩ := obind hf
    refine g_callV (gs' := [TB cy h0 h1 h2 h3 v0, SU cy h2 h4 z.2.1, SC h3 z.2.2]) (rest := [.ref h3]) X dX4_tryForgetting_47 (c_X4_kept l D cy ad h0 h1 h2 h3 v0 z.1 (0 : Int32) hq205) mf_X4_kept mv_X4_kept lkm_X4_98 ⟨(Nat.le_of_ble_eq_true rfl), (Nat.le_of_ble_eq_true rfl), (Nat.le_of_ble_eq_true rfl), (Nat.le_of_ble_eq_true rfl)⟩ 0 0 rfl rfl rfl rfl [0, 1, 2] _ (by decide : [0, 1, 2].Perm (List.range 3)) rfl (by decide : [0, 1, 2].Perm (List.range 3)) rfl (Nat.le_of_ble_eq_true rfl) rfl ?_
    refine g_aload_n X dX4_tryForgetting_50 0 rfl rfl ?_
    refine g_iload_n X dX4_tryForgetting_51 1 rfl rfl ?_
    refine g_iconst X (1 : Int32) dX4_tryForgetting_52 (by decide) ?_
    obtain ⟨q206, hq206, hf⟩ := obind hf
    refine g_callV (gs' := [TB cy h0 h1 h2 h3 v0, SU cy h2 h4 z.2.1, SC h3 z.2.2]) (rest := [.int q205, .ref h3]) X dX4_tryForgetting_53 (c_X4_kept l D cy ad h0 h1 h2 h3 v0 z.1 (1 : Int32) hq206) mf_X4_kept mv_X4_kept lkm_X4_98 ⟨(Nat.le_of_ble_eq_true rfl), (Nat.le_of_ble_eq_true rfl), (Nat.le_of_ble_eq_true rfl), (Nat.le_of_ble_eq_true rfl)⟩ 0 0 rfl rfl rfl rfl [0, 1, 2] _ (by decide : [0, 1, 2].Perm (List.range 3)) rfl (by decide : [0, 1, 2].Perm (List.range 3)) rfl (Nat.le_of_ble_eq_true rfl) rfl ?_
    refine g_aload_n X dX4_tryForgetting_56 0 rfl rfl ?_
    refine g_iload_n X dX4_tryForgetting_57 1 rfl rfl ?_
    refine g_iconst X (3 : Int32) dX4_tryForgetting_58 (by decide) ?_
    obtain ⟨q207, hq207, hf⟩ := obind hf
    refine g_callV (gs' := [TB cy h0 h1 h2 h3 v0, SU cy h2 h4 z.2.1, SC h3 z.2.2]) (rest := [.int q206, .int q205, .ref h3]) X dX4_tryForgetting_59 (c_X4_kept l D cy ad h0 h1 h2 h3 v0 z.1 (3 : Int32) hq207) mf_X4_kept mv_X4_kept lkm_X4_98 ⟨(Nat.le_of_ble_eq_true rfl), (Nat.le_of_ble_eq_true rfl), (Nat.le_of_ble_eq_true rfl), (Nat.le_of_ble_eq_true rfl)⟩ 0 0 rfl rfl rfl rfl [0, 1, 2] _ (by decide : [0, 1, 2].Perm (List.range 3)) rfl (by decide : [0, 1, 2].Perm (List.range 3)) rfl (Nat.le_of_ble_eq_true rfl) rfl ?_
    refine g_aload_n X dX4_tryForgetting_62 0 rfl rfl ?_
    refine g_iload_n X dX4_tryForgetting_63 1 rfl rfl ?_
    refine g_iconst X (4 : Int32) dX4_tryForgetting_64 (by decide) ?_
    obtain ⟨q208, hq208, hf⟩ := obind hf
    refine g_callV (gs' := [TB cy h0 h1 h2 h3 v0, SU cy h2 h4 z.2.1, SC h3 z.2.2]) (rest := [.int q207, .int q206, .int q205, .ref h3]) X dX4_tryForgetting_65 (c_X4_kept l D cy ad h0 h1 h2 h3 v0 z.1 (4 : Int32) hq208) mf_X4_kept mv_X4_kept lkm_X4_98 ⟨(Nat.le_of_ble_eq_true rfl), (Nat.le_of_ble_eq_true rfl), (Nat.le_of_ble_eq_true rfl), (Nat.le_of_ble_eq_true rfl)⟩ 0 0 rfl rfl rfl rfl [0, 1, 2] _ (by decide : [0, 1, 2].Perm (List.range 3)) rfl (by decide : [0, 1, 2].Perm (List.range 3)) rfl (Nat.le_of_ble_eq_true rfl) rfl ?_
    obtain ⟨q209, hq209, hf⟩ := obind hf
    refine g_callV (gs' := [TB cy h0 h1 h2 h3 v0, SU cy h2 h4 z.2.1, SC h3 q209]) (rest := []) X dX4_tryForgetting_68 (c_X1_set l D cy ad h3 z.2.2 q205 q206 q207 q208 hq209) mf_X1_set mv_X1_set lkm_X4_79 ⟨(Nat.le_of_ble_eq_true rfl), (Nat.le_of_ble_eq_true rfl), (Nat.le_of_ble_eq_true rfl), (Nat.le_of_ble_eq_true rfl)⟩ 2 0 rfl rfl rfl rfl [2, 0, 1] _ (by decide : [2, 0, 1].Perm (List.range 3)) rfl (by decide : [2, 0, 1].Perm (List.range 3)) rfl (Nat.le_of_ble_eq_true rfl) rfl ?_
    refine g_aload_n X dX4_tryForgetting_71 0 rfl rfl ?_
    refine g_get X dX4_tryForgetting_72 ck_X4 0 0 8 rfl rfl (Nat.le_of_ble_eq_true rfl) lkf_X4_18 rfl ?_
    refine g_aload_n X dX4_tryForgetting_75 0 rfl rfl ?_
    refine g_get X dX4_tryForgetting_76 ck_X4 0 0 9 rfl rfl (Nat.le_of_ble_eq_true rfl) lkf_X4_25 rfl ?_
    refine g_aload_n X dX4_tryForgetting_79 0 rfl rfl ?_
    refine g_iload_n X dX4_tryForgetting_80 1 rfl rfl ?_
    refine g_iconst X (2 : Int32) dX4_tryForgetting_81 (by decide) ?_
    obtain ⟨q210, hq210, hf⟩ := obind hf
    refine g_callV (gs' := [TB cy h0 h1 h2 h3 v0, SU cy h2 h4 z.2.1, SC h3 q209]) (rest := [.ref h3, .ref h2]) X dX4_tryForgetting_82 (c_X4_kept l D cy ad h0 h1 h2 h3 v0 z.1 (2 : Int32) hq210) mf_X4_kept mv_X4_kept lkm_X4_98 ⟨(Nat.le_of_ble_eq_true rfl), (Nat.le_of_ble_eq_true rfl), (Nat.le_of_ble_eq_true rfl), (Nat.le_of_ble_eq_true rfl)⟩ 0 0 rfl rfl rfl rfl [0, 1, 2] _ (by decide : [0, 1, 2].Perm (List.range 3)) rfl (by decide : [0, 1, 2].Perm (List.range 3)) rfl (Nat.le_of_ble_eq_true rfl) rfl ?_
    obtain ⟨q211, hq211, hf⟩ := obind hf
    refine g_callV (gs' := [TB cy h0 h1 h2 h3 v0, SU cy h2 h4 q211, SC h3 q209]) (rest := []) X dX4_tryForgetting_85 (c_X3_keep l D cy ad h2 h4 h3 z.2.1 q209 q210 hq211) mf_X3_keep mv_X3_keep lkm_X4_86 ⟨(Nat.le_of_ble_eq_true rfl), (Nat.le_of_ble_eq_true rfl), (Nat.le_of_ble_eq_true rfl), (Nat.le_of_ble_eq_true rfl)⟩ 1 0 rfl rfl rfl rfl [1, 2, 0] _ (by decide : [1, 2, 0].Perm (List.range 3)) rfl (by decide : [1, 2, 0].Perm (List.range 3)) rfl (Nat.le_of_ble_eq_true rfl) rfl ?_
    refine g_iinc (lv' := [(0, .ref h0), (1, .int (z.1 + (1 : Int32)))]) (v := (1 : Int32)) X dX4_tryForgetting_88 1 rfl (by decide) [1, 0] (Nat.le_of_ble_eq_true rfl) rfl ?_
    refine g_goto X 32 dX4_tryForgetting_91 (by decide) ?_
    exact K1 ((z.1 + (1 : Int32)), q211, q209) (Option.some.inj hf).symm
set_option maxRecDepth 100000 in
set_option maxHeartbeats 4000000 in
theorem w_X4_tryForgetting_B32 {p : Program} {l : Launch} {e : Env} {s : State} {m : MethodId} {args : Array Value} {below : List Frame} {meth : Method} {c : Code} {A : Nat → Prop} {D : va_G} {cy : Nat → ClassId} {ad : (Nat → Nat) × (Nat → Nat)} {Q : State → Prop} (X : gK p s m args meth c A D cy ad cX4_tryForgetting 2 RX4) (hr : meth.sig.returnType = (some .boolean)) {h0 h1 h2 h3 h4 : Nat} (v0 : TBv) {n : Nat} {z : Int32 × Fn × SCv} {q : (Fn × SCv)} (hf : itl (f_X4_tryForgetting_B32 v0) n z = some q) (K2 : GW p l e rmX4_tryForgetting s m args below meth c A D 2 0 0 Q 94 [] [] [TB cy h0 h1 h2 h3 v0, SU cy h2 h4 q.1, SC h3 q.2]) : GW p l e rmX4_tryForgetting s m args below meth c A D 2 0 0 Q 32 [(0, .ref h0), (1, .int z.1)] [] [TB cy h0 h1 h2 h3 v0, SU cy h2 h4 z.2.1, SC h3 z.2.2] :=
  itl_ind (f := f_X4_tryForgetting_B32 v0) (I := fun z => GW p l e rmX4_tryForgetting s m args below meth c A D 2 0 0 Q 32 [(0, .ref h0), (1, .int z.1)] [] [TB cy h0 h1 h2 h3 v0, SU cy h2 h4 z.2.1, SC h3 z.2.2]) (J := (fun q => GW p l e rmX4_tryForgetting s m args below meth c A D 2 0 0 Q 94 [] [] [TB cy h0 h1 h2 h3 v0, SU cy h2 h4 q.1, SC h3 q.2])) (fun z x h k1 k2 => b_X4_tryForgetting_B32 X hr v0 z h (fun s' hs => k1 s' hs) (fun e' he => k2 e' he)) n z q hf K2
def f_X4_tryForgetting (v0 : TBv) (v1 : Fn) (v2 : SCv) : Option (Bool × TBv × Fn × SCv) :=
  if 0 < v0.2.2.2.2.2.2.1 then (f_X3_suspectAll v1 v0.1).bind (fun q204 => (itl (f_X4_tryForgetting_B32 (v0.1, v0.2.1, v0.2.2.1, v0.2.2.2.1, v0.2.2.2.2.1, v0.2.2.2.2.2.1, (v0.2.2.2.2.2.2.1 - (1 : Int32)), v0.2.2.2.2.2.2.2)) FU ((0 : Int32), q204, v2)).bind (fun q213 => some (true, (v0.1, v0.2.1, v0.2.2.1, v0.2.2.2.1, v0.2.2.2.2.1, v0.2.2.2.2.2.1, (v0.2.2.2.2.2.2.1 - (1 : Int32)), v0.2.2.2.2.2.2.2), q213.1, q213.2))) else some (false, v0, v1, v2)
set_option maxRecDepth 100000 in
set_option maxHeartbeats 4000000 in
theorem c_X4_tryForgetting (l : Launch) (D : va_G) (cy : Nat → ClassId) (ad : (Nat → Nat) × (Nat → Nat)) (h0 : Nat) (h1 : Nat) (h2 : Nat) (h3 : Nat) (h4 : Nat) (v0 : TBv) (v1 : Fn) (v2 : SCv) {q : Bool × TBv × Fn × SCv} (hf : f_X4_tryForgetting v0 v1 v2 = some q) : CM l yX4_tryForgetting cX4_tryForgetting 2 (some .boolean) rmX4_tryForgetting D cy ad [.ref h0] [TB cy h0 h1 h2 h3 v0, SU cy h2 h4 v1, SC h3 v2] (some (.int (b2i q.1))) [TB cy h0 h1 h2 h3 q.2.1, SU cy h2 h4 q.2.2.1, SC h3 q.2.2.2] := by
  refine cm_of (lv0 := [(0, .ref h0)]) (by decide) (Nat.le_of_ble_eq_true rfl) rfl ?_
  intro p e s m args below meth c A X hr hn
  have X : gK p s m args meth c A D cy ad cX4_tryForgetting 2 RX4 := X
  unfold f_X4_tryForgetting at hf
  refine g_aload_n X dX4_tryForgetting_0 0 rfl rfl ?_
  refine g_get X dX4_tryForgetting_1 ck_X4 0 0 6 rfl rfl (Nat.le_of_ble_eq_true rfl) lkf_X4_52 rfl ?_
  refine g_if_gt X 9 dX4_tryForgetting_4 (by decide) (fun c214 => ?_) (fun c214 => ?_)
  · have hf := opos c214 hf
    refine g_aload_n X dX4_tryForgetting_9 0 rfl rfl ?_
    refine g_dup X dX4_tryForgetting_10 rfl ?_
    refine g_get X dX4_tryForgetting_11 ck_X4 0 0 6 rfl rfl (Nat.le_of_ble_eq_true rfl) lkf_X4_52 rfl ?_
    refine g_iconst X (1 : Int32) dX4_tryForgetting_14 (by decide) ?_
    refine g_isub X dX4_tryForgetting_15 ?_
    refine g_put (gs' := [TB cy h0 h1 h2 h3 (v0.1, v0.2.1, v0.2.2.1, v0.2.2.2.1, v0.2.2.2.2.1, v0.2.2.2.2.2.1, (v0.2.2.2.2.2.2.1 - (1 : Int32)), v0.2.2.2.2.2.2.2), SU cy h2 h4 v1, SC h3 v2]) X dX4_tryForgetting_16 ck_X4 ct_X4 0 0 6 rfl rfl (Nat.le_of_ble_eq_true rfl) lkf_X4_52 rfl rfl rfl (Nat.le_of_ble_eq_true rfl) rfl ?_
    refine g_aload_n X dX4_tryForgetting_19 0 rfl rfl ?_
    refine g_get X dX4_tryForgetting_20 ck_X4 0 0 8 rfl rfl (Nat.le_of_ble_eq_true rfl) lkf_X4_18 rfl ?_
    refine g_aload_n X dX4_tryForgetting_23 0 rfl rfl ?_
    refine g_get X dX4_tryForgetting_24 ck_X4 0 0 0 rfl rfl (Nat.le_of_ble_eq_true rfl) lkf_X4_46 rfl ?_
    obtain ⟨q204, hq204, hf⟩ := obind hf
    refine g_callV (gs' := [TB cy h0 h1 h2 h3 (v0.1, v0.2.1, v0.2.2.1, v0.2.2.2.1, v0.2.2.2.2.1, v0.2.2.2.2.2.1, (v0.2.2.2.2.2.2.1 - (1 : Int32)), v0.2.2.2.2.2.2.2), SU cy h2 h4 q204, SC h3 v2]) (rest := []) X dX4_tryForgetting_27 (c_X3_suspectAll l D cy ad h2 h4 v1 v0.1 hq204) mf_X3_suspectAll mv_X3_suspectAll lkm_X4_59 ⟨(Nat.le_of_ble_eq_true rfl), (Nat.le_of_ble_eq_true rfl), (Nat.le_of_ble_eq_true rfl), (Nat.le_of_ble_eq_true rfl)⟩ 1 0 rfl rfl rfl rfl [1, 0, 2] _ (by decide : [1, 0, 2].Perm (List.range 3)) rfl (by decide : [1, 0, 2].Perm (List.range 3)) rfl (Nat.le_of_ble_eq_true rfl) rfl ?_
    refine g_iconst X (0 : Int32) dX4_tryForgetting_30 (by decide) ?_
    refine g_istore_n (lv' := [(0, .ref h0), (1, .int (0 : Int32))]) X dX4_tryForgetting_31 [1, 0] rfl (Nat.le_of_ble_eq_true rfl) rfl ?_
    obtain ⟨q213, hq213, hf⟩ := obind hf
    refine w_X4_tryForgetting_B32 X hr (v0.1, v0.2.1, v0.2.2.1, v0.2.2.2.1, v0.2.2.2.2.1, v0.2.2.2.2.2.1, (v0.2.2.2.2.2.2.1 - (1 : Int32)), v0.2.2.2.2.2.2.2) hq213 ?_
    refine g_iconst X (1 : Int32) dX4_tryForgetting_94 (by decide) ?_
    have hf := Option.some.inj hf
    subst hf
    exact g_zret (b := true) X hr dX4_tryForgetting_95
  · have hf := oneg c214 hf
    refine g_iconst X (0 : Int32) dX4_tryForgetting_7 (by decide) ?_
    have hf := Option.some.inj hf
    subst hf
    exact g_zret (b := false) X hr dX4_tryForgetting_8
abbrev rmX4_noteBlame : Room := ({ frames := 0, cells := 0, slots := 0, locals := 0 } : Room)
def f_X4_noteBlame (v0 : TBv) (p1 : Bool) : Option (Bool × TBv) :=
  if (b2i p1) = 0 then some (p1, (v0.1, v0.2.1, v0.2.2.1, v0.2.2.2.1, v0.2.2.2.2.1, (v0.2.2.2.2.2.1 + (1 : Int32)), v0.2.2.2.2.2.2.1, v0.2.2.2.2.2.2.2)) else some (p1, (v0.1, v0.2.1, v0.2.2.1, v0.2.2.2.1, (v0.2.2.2.2.1 + (1 : Int32)), v0.2.2.2.2.2.1, v0.2.2.2.2.2.2.1, v0.2.2.2.2.2.2.2))
set_option maxRecDepth 100000 in
set_option maxHeartbeats 4000000 in
theorem c_X4_noteBlame (l : Launch) (D : va_G) (cy : Nat → ClassId) (ad : (Nat → Nat) × (Nat → Nat)) (h0 : Nat) (h1 : Nat) (h2 : Nat) (h3 : Nat) (v0 : TBv) (p1 : Bool) {q : Bool × TBv} (hf : f_X4_noteBlame v0 p1 = some q) : CM l yX4_noteBlame cX4_noteBlame 2 (some .boolean) rmX4_noteBlame D cy ad [.ref h0, .int (b2i p1)] [TB cy h0 h1 h2 h3 v0] (some (.int (b2i q.1))) [TB cy h0 h1 h2 h3 q.2] := by
  refine cm_of (lv0 := [(0, .ref h0), (1, .int (b2i p1))]) (by decide) (Nat.le_of_ble_eq_true rfl) rfl ?_
  intro p e s m args below meth c A X hr hn
  have X : gK p s m args meth c A D cy ad cX4_noteBlame 2 RX4 := X
  unfold f_X4_noteBlame at hf
  refine g_iload_n X dX4_noteBlame_0 1 rfl rfl ?_
  refine g_if_eq X 17 dX4_noteBlame_1 (by decide) (fun c215 => ?_) (fun c215 => ?_)
  · have hf := opos c215 hf
    refine g_aload_n X dX4_noteBlame_17 0 rfl rfl ?_
    refine g_dup X dX4_noteBlame_18 rfl ?_
    refine g_get X dX4_noteBlame_19 ck_X4 0 0 5 rfl rfl (Nat.le_of_ble_eq_true rfl) lkf_X4_43 rfl ?_
    refine g_iconst X (1 : Int32) dX4_noteBlame_22 (by decide) ?_
    refine g_iadd X dX4_noteBlame_23 ?_
    refine g_put (gs' := [TB cy h0 h1 h2 h3 (v0.1, v0.2.1, v0.2.2.1, v0.2.2.2.1, v0.2.2.2.2.1, (v0.2.2.2.2.2.1 + (1 : Int32)), v0.2.2.2.2.2.2.1, v0.2.2.2.2.2.2.2)]) X dX4_noteBlame_24 ck_X4 ct_X4 0 0 5 rfl rfl (Nat.le_of_ble_eq_true rfl) lkf_X4_43 rfl rfl rfl (Nat.le_of_ble_eq_true rfl) rfl ?_
    refine g_iload_n X dX4_noteBlame_27 1 rfl rfl ?_
    have hf := Option.some.inj hf
    subst hf
    exact g_zret (b := p1) X hr dX4_noteBlame_28
  · have hf := oneg c215 hf
    refine g_aload_n X dX4_noteBlame_4 0 rfl rfl ?_
    refine g_dup X dX4_noteBlame_5 rfl ?_
    refine g_get X dX4_noteBlame_6 ck_X4 0 0 4 rfl rfl (Nat.le_of_ble_eq_true rfl) lkf_X4_40 rfl ?_
    refine g_iconst X (1 : Int32) dX4_noteBlame_9 (by decide) ?_
    refine g_iadd X dX4_noteBlame_10 ?_
    refine g_put (gs' := [TB cy h0 h1 h2 h3 (v0.1, v0.2.1, v0.2.2.1, v0.2.2.2.1, (v0.2.2.2.2.1 + (1 : Int32)), v0.2.2.2.2.2.1, v0.2.2.2.2.2.2.1, v0.2.2.2.2.2.2.2)]) X dX4_noteBlame_11 ck_X4 ct_X4 0 0 4 rfl rfl (Nat.le_of_ble_eq_true rfl) lkf_X4_40 rfl rfl rfl (Nat.le_of_ble_eq_true rfl) rfl ?_
    refine g_goto X 27 dX4_noteBlame_14 (by decide) ?_
    refine g_iload_n X dX4_noteBlame_27 1 rfl rfl ?_
    have hf := Option.some.inj hf
    subst hf
    exact g_zret (b := p1) X hr dX4_noteBlame_28
abbrev rmX4_blameCoin : Room := ({ frames := 1, cells := 0, slots := 0, locals := 21 } : Room)
def f_X4_blameCoin_b28 (v0 : TBv) (y0 : Bool) : Option (Bool × TBv) :=
  (f_X4_noteBlame v0 y0).bind (fun q218 => some (q218.1, q218.2))
set_option maxRecDepth 100000 in
set_option maxHeartbeats 4000000 in
theorem j_X4_blameCoin_b28 {p : Program} {l : Launch} {e : Env} {s : State} {m : MethodId} {args : Array Value} {below : List Frame} {meth : Method} {c : Code} {A : Nat → Prop} {D : va_G} {cy : Nat → ClassId} {ad : (Nat → Nat) × (Nat → Nat)} (X : gK p s m args meth c A D cy ad cX4_blameCoin 3 RX4) (hr : meth.sig.returnType = (some .boolean)) {h0 h1 h2 h3 : Nat} (v0 : TBv) (y0 : Bool) {q : Bool × TBv} (hf : f_X4_blameCoin_b28 v0 y0 = some q) : GW p l e rmX4_blameCoin s m args below meth c A D 3 0 0 (MQ below (cmQ D cy A (some (.int (b2i q.1))) ([TB cy h0 h1 h2 h3 q.2] : List va_W).flatten) args s 0 0 A) 28 [] [.int (b2i y0), .ref h0] [TB cy h0 h1 h2 h3 v0] := by
  unfold f_X4_blameCoin_b28 at hf
  obtain ⟨q218, hq218, hf⟩ := obind hf
  refine g_callV (gs' := [TB cy h0 h1 h2 h3 q218.2]) (rest := []) X dX4_blameCoin_28 (c_X4_noteBlame l D cy ad h0 h1 h2 h3 v0 y0 hq218) mf_X4_noteBlame mv_X4_noteBlame lkm_X4_102 ⟨(Nat.le_of_ble_eq_true rfl), (Nat.le_of_ble_eq_true rfl), (Nat.le_of_ble_eq_true rfl), (Nat.le_of_ble_eq_true rfl)⟩ 0 0 rfl rfl rfl rfl [0] _ (by decide : [0].Perm (List.range 1)) rfl (by decide : [0].Perm (List.range 1)) rfl (Nat.le_of_ble_eq_true rfl) rfl ?_
  have hf := Option.some.inj hf
  subst hf
  exact g_zret (b := q218.1) X hr dX4_blameCoin_31
def f_X4_blameCoin_b19 (v0 : TBv) (y0 : Bool) (y1 : Int32) (y2 : Int32) : Option (Bool × TBv) :=
  if y2 = (y1 + (b2i y0)) then f_X4_blameCoin_b28 v0 true else f_X4_blameCoin_b28 v0 false
set_option maxRecDepth 100000 in
set_option maxHeartbeats 4000000 in
theorem j_X4_blameCoin_b19 {p : Program} {l : Launch} {e : Env} {s : State} {m : MethodId} {args : Array Value} {below : List Frame} {meth : Method} {c : Code} {A : Nat → Prop} {D : va_G} {cy : Nat → ClassId} {ad : (Nat → Nat) × (Nat → Nat)} (X : gK p s m args meth c A D cy ad cX4_blameCoin 3 RX4) (hr : meth.sig.returnType = (some .boolean)) {h0 h1 h2 h3 : Nat} (v0 : TBv) (y0 : Bool) (y1 : Int32) (y2 : Int32) {q : Bool × TBv} (hf : f_X4_blameCoin_b19 v0 y0 y1 y2 = some q) : GW p l e rmX4_blameCoin s m args below meth c A D 3 0 0 (MQ below (cmQ D cy A (some (.int (b2i q.1))) ([TB cy h0 h1 h2 h3 q.2] : List va_W).flatten) args s 0 0 A) 19 [] [.int (b2i y0), .int y1, .int y2, .ref h0] [TB cy h0 h1 h2 h3 v0] := by
  unfold f_X4_blameCoin_b19 at hf
  refine g_iadd X dX4_blameCoin_19 ?_
  refine g_icmp_ne X 27 dX4_blameCoin_20 (by decide) (fun c219 => ?_) (fun c219 => ?_)
  · have hf := oneg c219 hf
    refine g_iconst X (0 : Int32) dX4_blameCoin_27 (by decide) ?_
    exact j_X4_blameCoin_b28 X hr v0 false hf
  · have hf := opos c219 hf
    refine g_iconst X (1 : Int32) dX4_blameCoin_23 (by decide) ?_
    refine g_goto X 28 dX4_blameCoin_24 (by decide) ?_
    exact j_X4_blameCoin_b28 X hr v0 true hf
def f_X4_blameCoin (v0 : TBv) (p1 : Int32) (p2 : Bool) : Option (Bool × TBv) :=
  if (b2i p2) = 0 then f_X4_blameCoin_b19 v0 false ((2 : Int32) * p1) (v0.2.1 / (3 : Int32)) else f_X4_blameCoin_b19 v0 true ((2 : Int32) * p1) (v0.2.1 / (3 : Int32))
set_option maxRecDepth 100000 in
set_option maxHeartbeats 4000000 in
theorem c_X4_blameCoin (l : Launch) (D : va_G) (cy : Nat → ClassId) (ad : (Nat → Nat) × (Nat → Nat)) (h0 : Nat) (h1 : Nat) (h2 : Nat) (h3 : Nat) (v0 : TBv) (p1 : Int32) (p2 : Bool) {q : Bool × TBv} (hf : f_X4_blameCoin v0 p1 p2 = some q) : CM l yX4_blameCoin cX4_blameCoin 3 (some .boolean) rmX4_blameCoin D cy ad [.ref h0, .int p1, .int (b2i p2)] [TB cy h0 h1 h2 h3 v0] (some (.int (b2i q.1))) [TB cy h0 h1 h2 h3 q.2] := by
  refine cm_of (lv0 := [(0, .ref h0), (1, .int p1), (2, .int (b2i p2))]) (by decide) (Nat.le_of_ble_eq_true rfl) rfl ?_
  intro p e s m args below meth c A X hr hn
  have X : gK p s m args meth c A D cy ad cX4_blameCoin 3 RX4 := X
  unfold f_X4_blameCoin at hf
  refine g_aload_n X dX4_blameCoin_0 0 rfl rfl ?_
  refine g_aload_n X dX4_blameCoin_1 0 rfl rfl ?_
  refine g_get X dX4_blameCoin_2 ck_X4 0 0 1 rfl rfl (Nat.le_of_ble_eq_true rfl) lkf_X4_49 rfl ?_
  refine g_iconst X (3 : Int32) dX4_blameCoin_5 (by decide) ?_
  refine g_idiv X dX4_blameCoin_6 (by decide) ?_
  refine g_iconst X (2 : Int32) dX4_blameCoin_7 (by decide) ?_
  refine g_iload_n X dX4_blameCoin_8 1 rfl rfl ?_
  refine g_imul X dX4_blameCoin_9 ?_
  refine g_iload_n X dX4_blameCoin_10 2 rfl rfl ?_
  refine g_if_eq X 18 dX4_blameCoin_11 (by decide) (fun c220 => ?_) (fun c220 => ?_)
  · have hf := opos c220 hf
    refine g_iconst X (0 : Int32) dX4_blameCoin_18 (by decide) ?_
    refine g_sub [] (lv' := []) rfl ?_
    exact j_X4_blameCoin_b19 X hr v0 false ((2 : Int32) * p1) (v0.2.1 / (3 : Int32)) hf
  · have hf := oneg c220 hf
    refine g_iconst X (1 : Int32) dX4_blameCoin_14 (by decide) ?_
    refine g_goto X 19 dX4_blameCoin_15 (by decide) ?_
    refine g_sub [] (lv' := []) rfl ?_
    exact j_X4_blameCoin_b19 X hr v0 true ((2 : Int32) * p1) (v0.2.1 / (3 : Int32)) hf
abbrev rmX4_blamePan : Room := ({ frames := 1, cells := 0, slots := 0, locals := 21 } : Room)
def f_X4_blamePan_b16 (v0 : TBv) (y0 : Bool) : Option (Bool × TBv) :=
  (f_X4_noteBlame v0 y0).bind (fun q223 => some (q223.1, q223.2))
set_option maxRecDepth 100000 in
set_option maxHeartbeats 4000000 in
theorem j_X4_blamePan_b16 {p : Program} {l : Launch} {e : Env} {s : State} {m : MethodId} {args : Array Value} {below : List Frame} {meth : Method} {c : Code} {A : Nat → Prop} {D : va_G} {cy : Nat → ClassId} {ad : (Nat → Nat) × (Nat → Nat)} (X : gK p s m args meth c A D cy ad cX4_blamePan 2 RX4) (hr : meth.sig.returnType = (some .boolean)) {h0 h1 h2 h3 : Nat} (v0 : TBv) (y0 : Bool) {q : Bool × TBv} (hf : f_X4_blamePan_b16 v0 y0 = some q) : GW p l e rmX4_blamePan s m args below meth c A D 2 0 0 (MQ below (cmQ D cy A (some (.int (b2i q.1))) ([TB cy h0 h1 h2 h3 q.2] : List va_W).flatten) args s 0 0 A) 16 [] [.int (b2i y0), .ref h0] [TB cy h0 h1 h2 h3 v0] := by
  unfold f_X4_blamePan_b16 at hf
  obtain ⟨q223, hq223, hf⟩ := obind hf
  refine g_callV (gs' := [TB cy h0 h1 h2 h3 q223.2]) (rest := []) X dX4_blamePan_16 (c_X4_noteBlame l D cy ad h0 h1 h2 h3 v0 y0 hq223) mf_X4_noteBlame mv_X4_noteBlame lkm_X4_102 ⟨(Nat.le_of_ble_eq_true rfl), (Nat.le_of_ble_eq_true rfl), (Nat.le_of_ble_eq_true rfl), (Nat.le_of_ble_eq_true rfl)⟩ 0 0 rfl rfl rfl rfl [0] _ (by decide : [0].Perm (List.range 1)) rfl (by decide : [0].Perm (List.range 1)) rfl (Nat.le_of_ble_eq_true rfl) rfl ?_
  have hf := Option.some.inj hf
  subst hf
  exact g_zret (b := q223.1) X hr dX4_blamePan_19
def f_X4_blamePan (v0 : TBv) (p1 : Int32) : Option (Bool × TBv) :=
  if (v0.2.1 - v0.2.1 / (3 : Int32) * (3 : Int32)) = p1 then f_X4_blamePan_b16 v0 true else f_X4_blamePan_b16 v0 false
set_option maxRecDepth 100000 in
set_option maxHeartbeats 4000000 in
theorem c_X4_blamePan (l : Launch) (D : va_G) (cy : Nat → ClassId) (ad : (Nat → Nat) × (Nat → Nat)) (h0 : Nat) (h1 : Nat) (h2 : Nat) (h3 : Nat) (v0 : TBv) (p1 : Int32) {q : Bool × TBv} (hf : f_X4_blamePan v0 p1 = some q) : CM l yX4_blamePan cX4_blamePan 2 (some .boolean) rmX4_blamePan D cy ad [.ref h0, .int p1] [TB cy h0 h1 h2 h3 v0] (some (.int (b2i q.1))) [TB cy h0 h1 h2 h3 q.2] := by
  refine cm_of (lv0 := [(0, .ref h0), (1, .int p1)]) (by decide) (Nat.le_of_ble_eq_true rfl) rfl ?_
  intro p e s m args below meth c A X hr hn
  have X : gK p s m args meth c A D cy ad cX4_blamePan 2 RX4 := X
  unfold f_X4_blamePan at hf
  refine g_aload_n X dX4_blamePan_0 0 rfl rfl ?_
  refine g_aload_n X dX4_blamePan_1 0 rfl rfl ?_
  refine g_get X dX4_blamePan_2 ck_X4 0 0 1 rfl rfl (Nat.le_of_ble_eq_true rfl) lkf_X4_49 rfl ?_
  refine g_iconst X (3 : Int32) dX4_blamePan_5 (by decide) ?_
  refine g_irem X dX4_blamePan_6 (by decide) ?_
  refine g_iload_n X dX4_blamePan_7 1 rfl rfl ?_
  refine g_icmp_ne X 15 dX4_blamePan_8 (by decide) (fun c224 => ?_) (fun c224 => ?_)
  · have hf := oneg c224 hf
    refine g_iconst X (0 : Int32) dX4_blamePan_15 (by decide) ?_
    refine g_sub [] (lv' := []) rfl ?_
    exact j_X4_blamePan_b16 X hr v0 false hf
  · have hf := opos c224 hf
    refine g_iconst X (1 : Int32) dX4_blamePan_11 (by decide) ?_
    refine g_goto X 16 dX4_blamePan_12 (by decide) ?_
    refine g_sub [] (lv' := []) rfl ?_
    exact j_X4_blamePan_b16 X hr v0 true hf
abbrev rmX4_idleWeighings : Room := ({ frames := 2, cells := 0, slots := 0, locals := 40 } : Room)
def f_X4_idleWeighings_B9_b34 (v0 : TBv) (x1 : Int32) (x3 : Int32) (x4 : Int32) : Option ((Int32 × Int32 × Int32) ⊕ ((Int32))) :=
  some (.inl (x1, x4, (x3 + (1 : Int32))))
set_option maxRecDepth 100000 in
set_option maxHeartbeats 4000000 in
theorem j_X4_idleWeighings_B9_b34 {p : Program} {l : Launch} {e : Env} {s : State} {m : MethodId} {args : Array Value} {below : List Frame} {meth : Method} {c : Code} {A : Nat → Prop} {D : va_G} {cy : Nat → ClassId} {ad : (Nat → Nat) × (Nat → Nat)} {Q : State → Prop} (X : gK p s m args meth c A D cy ad cX4_idleWeighings 5 RX4) (hr : meth.sig.returnType = (some .int)) {h0 h1 h2 h3 : Nat} (v0 : TBv) (x1 : Int32) (x3 : Int32) (x4 : Int32) {q : (Int32 × Int32 × Int32) ⊕ ((Int32))} (hf : f_X4_idleWeighings_B9_b34 v0 x1 x3 x4 = some q) (K1 : ∀ s' : Int32 × Int32 × Int32, q = .inl s' → GW p l e rmX4_idleWeighings s m args below meth c A D 5 0 0 Q 9 [(0, .ref h0), (1, .int s'.1), (2, .int s'.2.1), (3, .int s'.2.2)] [] [TB cy h0 h1 h2 h3 v0]) (K2 : ∀ e' : Int32, q = .inr (e') → GW p l e rmX4_idleWeighings s m args below meth c A D 5 0 0 Q 43 [(1, .int e')] [] [TB cy h0 h1 h2 h3 v0]) : GW p l e rmX4_idleWeighings s m args below meth c A D 5 0 0 Q 34 [(0, .ref h0), (1, .int x1), (3, .int x3), (4, .int x4)] [] [TB cy h0 h1 h2 h3 v0] := by
  unfold f_X4_idleWeighings_B9_b34 at hf
  refine g_iload X dX4_idleWeighings_34 3 rfl ?_
  refine g_istore_n (lv' := [(0, .ref h0), (1, .int x1), (2, .int x4), (3, .int x3), (4, .int x4)]) X dX4_idleWeighings_36 [1, 2, 0, 3, 4] rfl (Nat.le_of_ble_eq_true rfl) rfl ?_
  refine g_iinc (lv' := [(0, .ref h0), (1, .int x1), (2, .int x4), (3, .int (x3 + (1 : Int32))), (4, .int x4)]) (v := (1 : Int32)) X dX4_idleWeighings_37 3 rfl (by decide) [1, 2, 3, 0, 4] (Nat.le_of_ble_eq_true rfl) rfl ?_
  refine g_goto X 9 dX4_idleWeighings_40 (by decide) ?_
  refine g_sub [0, 1, 2, 3] (lv' := [(0, .ref h0), (1, .int x1), (2, .int x4), (3, .int (x3 + (1 : Int32)))]) rfl ?_
  exact K1 (x1, x4, (x3 + (1 : Int32))) (Option.some.inj hf).symm
def f_X4_idleWeighings_B9 (v0 : TBv) (z : Int32 × Int32 × Int32) : Option ((Int32 × Int32 × Int32) ⊕ ((Int32))) :=
  if v0.2.2.2.2.2.2.1 ≤ z.2.2 then some (.inr ((z.1))) else (f_X4_kept v0 z.2.2 (5 : Int32)).bind (fun q230 => if q230 = z.2.1 then f_X4_idleWeighings_B9_b34 v0 (z.1 + (1 : Int32)) z.2.2 q230 else f_X4_idleWeighings_B9_b34 v0 z.1 z.2.2 q230)
set_option maxRecDepth 100000 in
set_option maxHeartbeats 4000000 in
theorem b_X4_idleWeighings_B9 {p : Program} {l : Launch} {e : Env} {s : State} {m : MethodId} {args : Array Value} {below : List Frame} {meth : Method} {c : Code} {A : Nat → Prop} {D : va_G} {cy : Nat → ClassId} {ad : (Nat → Nat) × (Nat → Nat)} {Q : State → Prop} (X : gK p s m args meth c A D cy ad cX4_idleWeighings 5 RX4) (hr : meth.sig.returnType = (some .int)) {h0 h1 h2 h3 : Nat} (v0 : TBv) (z : Int32 × Int32 × Int32) {q : (Int32 × Int32 × Int32) ⊕ ((Int32))} (hf : f_X4_idleWeighings_B9 v0 z = some q) (K1 : ∀ s' : Int32 × Int32 × Int32, q = .inl s' → GW p l e rmX4_idleWeighings s m args below meth c A D 5 0 0 Q 9 [(0, .ref h0), (1, .int s'.1), (2, .int s'.2.1), (3, .int s'.2.2)] [] [TB cy h0 h1 h2 h3 v0]) (K2 : ∀ e' : Int32, q = .inr (e') → GW p l e rmX4_idleWeighings s m args below meth c A D 5 0 0 Q 43 [(1, .int e')] [] [TB cy h0 h1 h2 h3 v0]) : GW p l e rmX4_idleWeighings s m args below meth c A D 5 0 0 Q 9 [(0, .ref h0), (1, .int z.1), (2, .int z.2.1), (3, .int z.2.2)] [] [TB cy h0 h1 h2 h3 v0] := by
  unfold f_X4_idleWeighings_B9 at hf
  refine g_iload_n X dX4_idleWeighings_9 3 rfl rfl ?_
  refine g_aload_n X dX4_idleWeighings_10 0 rfl rfl ?_
  refine g_get X dX4_idleWeighings_11 ck_X4 0 0 6 rfl rfl (Nat.le_of_ble_eq_true rfl) lkf_X4_52 rfl ?_
  refine g_icmp_ge X 43 dX4_idleWeighings_14 (by decide) (fun c232 => ?_) (fun c232 => ?_)
  · have hf := opos c232 hf
    refine g_sub [1] (lv' := [(1, .int z.1)]) rfl ?_
    exact K2 (z.1) (Option.some.inj hf).symm
  · have hf := oneg c232 hf
    refine g_aload_n X dX4_idleWeighings_17 0 rfl rfl ?_
    refine g_iload_n X dX4_idleWeighings_18 3 rfl rfl ?_
    refine g_iconst X (5 : Int32) dX4_idleWeighings_19 (by decide) ?_
    obtain ⟨q230, hq230, hf⟩ := obind hf
    refine g_callV (gs' := [TB cy h0 h1 h2 h3 v0]) (rest := []) X dX4_idleWeighings_20 (c_X4_kept l D cy ad h0 h1 h2 h3 v0 z.2.2 (5 : Int32) hq230) mf_X4_kept mv_X4_kept lkm_X4_98 ⟨(Nat.le_of_ble_eq_true rfl), (Nat.le_of_ble_eq_true rfl), (Nat.le_of_ble_eq_true rfl), (Nat.le_of_ble_eq_true rfl)⟩ 0 0 rfl rfl rfl rfl [0] _ (by decide : [0].Perm (List.range 1)) rfl (by decide : [0].Perm (List.range 1)) rfl (Nat.le_of_ble_eq_true rfl) rfl ?_
    refine g_istore (lv' := [(0, .ref h0), (1, .int z.1), (2, .int z.2.1), (3, .int z.2.2), (4, .int q230)]) X dX4_idleWeighings_23 [1, 2, 3, 4, 0] (Nat.le_of_ble_eq_true rfl) rfl ?_
    refine g_iload X dX4_idleWeighings_25 4 rfl ?_
    refine g_iload_n X dX4_idleWeighings_27 2 rfl rfl ?_
    refine g_icmp_ne X 34 dX4_idleWeighings_28 (by decide) (fun c231 => ?_) (fun c231 => ?_)
    · have hf := oneg c231 hf
      refine g_sub [0, 1, 3, 4] (lv' := [(0, .ref h0), (1, .int z.1), (3, .int z.2.2), (4, .int q230)]) rfl ?_
      exact j_X4_idleWeighings_B9_b34 X hr v0 z.1 z.2.2 q230 hf K1 K2
    · have hf := opos c231 hf
      refine g_iinc (lv' := [(0, .ref h0), (1, .int (z.1 + (1 : Int32))), (2, .int z.2.1), (3, .int z.2.2), (4, .int q230)]) (v := (1 : Int32)) X dX4_idleWeighings_31 1 rfl (by decide) [1, 0, 2, 3, 4] (Nat.le_of_ble_eq_true rfl) rfl ?_
      refine g_sub [0, 1, 3, 4] (lv' := [(0, .ref h0), (1, .int (z.1 + (1 : Int32))), (3, .int z.2.2), (4, .int q230)]) rfl ?_
      exact j_X4_idleWeighings_B9_b34 X hr v0 (z.1 + (1 : Int32)) z.2.2 q230 hf K1 K2
set_option maxRecDepth 100000 in
set_option maxHeartbeats 4000000 in
theorem w_X4_idleWeighings_B9 {p : Program} {l : Launch} {e : Env} {s : State} {m : MethodId} {args : Array Value} {below : List Frame} {meth : Method} {c : Code} {A : Nat → Prop} {D : va_G} {cy : Nat → ClassId} {ad : (Nat → Nat) × (Nat → Nat)} {Q : State → Prop} (X : gK p s m args meth c A D cy ad cX4_idleWeighings 5 RX4) (hr : meth.sig.returnType = (some .int)) {h0 h1 h2 h3 : Nat} (v0 : TBv) {n : Nat} {z : Int32 × Int32 × Int32} {q : (Int32)} (hf : itl (f_X4_idleWeighings_B9 v0) n z = some q) (K2 : GW p l e rmX4_idleWeighings s m args below meth c A D 5 0 0 Q 43 [(1, .int q)] [] [TB cy h0 h1 h2 h3 v0]) : GW p l e rmX4_idleWeighings s m args below meth c A D 5 0 0 Q 9 [(0, .ref h0), (1, .int z.1), (2, .int z.2.1), (3, .int z.2.2)] [] [TB cy h0 h1 h2 h3 v0] :=
  itl_ind (f := f_X4_idleWeighings_B9 v0) (I := fun z => GW p l e rmX4_idleWeighings s m args below meth c A D 5 0 0 Q 9 [(0, .ref h0), (1, .int z.1), (2, .int z.2.1), (3, .int z.2.2)] [] [TB cy h0 h1 h2 h3 v0]) (J := (fun q => GW p l e rmX4_idleWeighings s m args below meth c A D 5 0 0 Q 43 [(1, .int q)] [] [TB cy h0 h1 h2 h3 v0])) (fun z x h k1 k2 => b_X4_idleWeighings_B9 X hr v0 z h (fun s' hs => k1 s' hs) (fun e' he => k2 e' he)) n z q hf K2
def f_X4_idleWeighings (v0 : TBv) : Option (Int32) :=
  (f_X4_allCases v0).bind (fun q229 => (itl (f_X4_idleWeighings_B9 v0) FU ((0 : Int32), q229, (0 : Int32))).bind (fun q233 => some q233))
set_option maxRecDepth 100000 in
set_option maxHeartbeats 4000000 in
theorem c_X4_idleWeighings (l : Launch) (D : va_G) (cy : Nat → ClassId) (ad : (Nat → Nat) × (Nat → Nat)) (h0 : Nat) (h1 : Nat) (h2 : Nat) (h3 : Nat) (v0 : TBv) {q : Int32} (hf : f_X4_idleWeighings v0 = some q) : CM l yX4_idleWeighings cX4_idleWeighings 5 (some .int) rmX4_idleWeighings D cy ad [.ref h0] [TB cy h0 h1 h2 h3 v0] (some (.int q)) [TB cy h0 h1 h2 h3 v0] := by
  refine cm_of (lv0 := [(0, .ref h0)]) (by decide) (Nat.le_of_ble_eq_true rfl) rfl ?_
  intro p e s m args below meth c A X hr hn
  have X : gK p s m args meth c A D cy ad cX4_idleWeighings 5 RX4 := X
  unfold f_X4_idleWeighings at hf
  refine g_iconst X (0 : Int32) dX4_idleWeighings_0 (by decide) ?_
  refine g_istore_n (lv' := [(0, .ref h0), (1, .int (0 : Int32))]) X dX4_idleWeighings_1 [1, 0] rfl (Nat.le_of_ble_eq_true rfl) rfl ?_
  refine g_aload_n X dX4_idleWeighings_2 0 rfl rfl ?_
  obtain ⟨q229, hq229, hf⟩ := obind hf
  refine g_callV (gs' := [TB cy h0 h1 h2 h3 v0]) (rest := []) X dX4_idleWeighings_3 (c_X4_allCases l D cy ad h0 h1 h2 h3 v0 hq229) mf_X4_allCases mv_X4_allCases lkm_X4_106 ⟨(Nat.le_of_ble_eq_true rfl), (Nat.le_of_ble_eq_true rfl), (Nat.le_of_ble_eq_true rfl), (Nat.le_of_ble_eq_true rfl)⟩ 0 0 rfl rfl rfl rfl [0] _ (by decide : [0].Perm (List.range 1)) rfl (by decide : [0].Perm (List.range 1)) rfl (Nat.le_of_ble_eq_true rfl) rfl ?_
  refine g_istore_n (lv' := [(0, .ref h0), (1, .int (0 : Int32)), (2, .int q229)]) X dX4_idleWeighings_6 [1, 2, 0] rfl (Nat.le_of_ble_eq_true rfl) rfl ?_
  refine g_iconst X (0 : Int32) dX4_idleWeighings_7 (by decide) ?_
  refine g_istore_n (lv' := [(0, .ref h0), (1, .int (0 : Int32)), (2, .int q229), (3, .int (0 : Int32))]) X dX4_idleWeighings_8 [1, 2, 3, 0] rfl (Nat.le_of_ble_eq_true rfl) rfl ?_
  obtain ⟨q233, hq233, hf⟩ := obind hf
  refine w_X4_idleWeighings_B9 X hr v0 hq233 ?_
  refine g_iload_n X dX4_idleWeighings_43 0 rfl rfl ?_
  have hf := Option.some.inj hf
  subst hf
  exact g_iret X hr dX4_idleWeighings_44
abbrev rmX4_foreseeWith : Room := ({ frames := 2, cells := 0, slots := 0, locals := 52 } : Room)
def f_X4_foreseeWith (v0 : TBv) (v1 : Fn) (v2 : SCv) (w0 : TAv) (p1 : Int32) (p2 : Int32) (p3 : Int32) (p4 : Int32) : Option (SCv × TAv) :=
  (f_X1_set v2 p1 p2 p3 p4).bind (fun q238 => (f_X3_sort v1 q238 w0).bind (fun q239 => some (q238, q239)))
set_option maxRecDepth 100000 in
set_option maxHeartbeats 4000000 in
theorem c_X4_foreseeWith (l : Launch) (D : va_G) (cy : Nat → ClassId) (ad : (Nat → Nat) × (Nat → Nat)) (h0 : Nat) (h1 : Nat) (h2 : Nat) (h3 : Nat) (h4 : Nat) (g0 : Nat) (v0 : TBv) (v1 : Fn) (v2 : SCv) (w0 : TAv) (p1 : Int32) (p2 : Int32) (p3 : Int32) (p4 : Int32) {q : SCv × TAv} (hf : f_X4_foreseeWith v0 v1 v2 w0 p1 p2 p3 p4 = some q) : CM l yX4_foreseeWith cX4_foreseeWith 6 none rmX4_foreseeWith D cy ad [.ref h0, .int p1, .int p2, .int p3, .int p4, .ref g0] [TB cy h0 h1 h2 h3 v0, SU cy h2 h4 v1, SC h3 v2, TA g0 w0] none [TB cy h0 h1 h2 h3 v0, SU cy h2 h4 v1, SC h3 q.1, TA g0 q.2] := by
  refine cm_of (lv0 := [(0, .ref h0), (1, .int p1), (2, .int p2), (3, .int p3), (4, .int p4), (5, .ref g0)]) (by decide) (Nat.le_of_ble_eq_true rfl) rfl ?_
  intro p e s m args below meth c A X hr hn
  have X : gK p s m args meth c A D cy ad cX4_foreseeWith 6 RX4 := X
  unfold f_X4_foreseeWith at hf
  refine g_aload_n X dX4_foreseeWith_0 0 rfl rfl ?_
  refine g_get X dX4_foreseeWith_1 ck_X4 0 0 9 rfl rfl (Nat.le_of_ble_eq_true rfl) lkf_X4_25 rfl ?_
  refine g_iload_n X dX4_foreseeWith_4 1 rfl rfl ?_
  refine g_iload_n X dX4_foreseeWith_5 2 rfl rfl ?_
  refine g_iload_n X dX4_foreseeWith_6 3 rfl rfl ?_
  refine g_iload X dX4_foreseeWith_7 4 rfl ?_
  obtain ⟨q238, hq238, hf⟩ := obind hf
  refine g_callV (gs' := [TB cy h0 h1 h2 h3 v0, SU cy h2 h4 v1, SC h3 q238, TA g0 w0]) (rest := []) X dX4_foreseeWith_9 (c_X1_set l D cy ad h3 v2 p1 p2 p3 p4 hq238) mf_X1_set mv_X1_set lkm_X4_79 ⟨(Nat.le_of_ble_eq_true rfl), (Nat.le_of_ble_eq_true rfl), (Nat.le_of_ble_eq_true rfl), (Nat.le_of_ble_eq_true rfl)⟩ 2 0 rfl rfl rfl rfl [2, 0, 1, 3] _ (by decide : [2, 0, 1, 3].Perm (List.range 4)) rfl (by decide : [2, 0, 1, 3].Perm (List.range 4)) rfl (Nat.le_of_ble_eq_true rfl) rfl ?_
  refine g_aload_n X dX4_foreseeWith_12 0 rfl rfl ?_
  refine g_get X dX4_foreseeWith_13 ck_X4 0 0 8 rfl rfl (Nat.le_of_ble_eq_true rfl) lkf_X4_18 rfl ?_
  refine g_aload_n X dX4_foreseeWith_16 0 rfl rfl ?_
  refine g_get X dX4_foreseeWith_17 ck_X4 0 0 9 rfl rfl (Nat.le_of_ble_eq_true rfl) lkf_X4_25 rfl ?_
  refine g_aload X dX4_foreseeWith_20 5 rfl ?_
  obtain ⟨q239, hq239, hf⟩ := obind hf
  refine g_callV (gs' := [TB cy h0 h1 h2 h3 v0, SU cy h2 h4 v1, SC h3 q238, TA g0 q239]) (rest := []) X dX4_foreseeWith_22 (c_X3_sort l D cy ad h2 h4 h3 g0 v1 q238 w0 hq239) mf_X3_sort mv_X3_sort lkm_X4_113 ⟨(Nat.le_of_ble_eq_true rfl), (Nat.le_of_ble_eq_true rfl), (Nat.le_of_ble_eq_true rfl), (Nat.le_of_ble_eq_true rfl)⟩ 1 0 rfl rfl rfl rfl [1, 2, 3, 0] _ (by decide : [1, 2, 3, 0].Perm (List.range 4)) rfl (by decide : [1, 2, 3, 0].Perm (List.range 4)) rfl (Nat.le_of_ble_eq_true rfl) rfl ?_
  have hf := Option.some.inj hf
  subst hf
  exact g_vret X hr dX4_foreseeWith_25
abbrev rmX4_foresee : Room := ({ frames := 3, cells := 0, slots := 0, locals := 77 } : Room)
def f_X4_foresee (v0 : TBv) (v1 : Fn) (v2 : SCv) (w0 : TAv) (p1 : Int32) (p2 : Int32) : Option (SCv × TAv) :=
  (f_X4_foreseeWith v0 v1 v2 w0 p1 p2 v0.2.2.1 v0.2.2.2.1).bind (fun q242 => some (q242.1, q242.2))
set_option maxRecDepth 100000 in
set_option maxHeartbeats 4000000 in
theorem c_X4_foresee (l : Launch) (D : va_G) (cy : Nat → ClassId) (ad : (Nat → Nat) × (Nat → Nat)) (h0 : Nat) (h1 : Nat) (h2 : Nat) (h3 : Nat) (h4 : Nat) (g0 : Nat) (v0 : TBv) (v1 : Fn) (v2 : SCv) (w0 : TAv) (p1 : Int32) (p2 : Int32) {q : SCv × TAv} (hf : f_X4_foresee v0 v1 v2 w0 p1 p2 = some q) : CM l yX4_foresee cX4_foresee 4 none rmX4_foresee D cy ad [.ref h0, .int p1, .int p2, .ref g0] [TB cy h0 h1 h2 h3 v0, SU cy h2 h4 v1, SC h3 v2, TA g0 w0] none [TB cy h0 h1 h2 h3 v0, SU cy h2 h4 v1, SC h3 q.1, TA g0 q.2] := by
  refine cm_of (lv0 := [(0, .ref h0), (1, .int p1), (2, .int p2), (3, .ref g0)]) (by decide) (Nat.le_of_ble_eq_true rfl) rfl ?_
  intro p e s m args below meth c A X hr hn
  have X : gK p s m args meth c A D cy ad cX4_foresee 4 RX4 := X
  unfold f_X4_foresee at hf
  refine g_aload_n X dX4_foresee_0 0 rfl rfl ?_
  refine g_iload_n X dX4_foresee_1 1 rfl rfl ?_
  refine g_iload_n X dX4_foresee_2 2 rfl rfl ?_
  refine g_aload_n X dX4_foresee_3 0 rfl rfl ?_
  refine g_get X dX4_foresee_4 ck_X4 0 0 2 rfl rfl (Nat.le_of_ble_eq_true rfl) lkf_X4_33 rfl ?_
  refine g_aload_n X dX4_foresee_7 0 rfl rfl ?_
  refine g_get X dX4_foresee_8 ck_X4 0 0 3 rfl rfl (Nat.le_of_ble_eq_true rfl) lkf_X4_37 rfl ?_
  refine g_aload_n X dX4_foresee_11 3 rfl rfl ?_
  obtain ⟨q242, hq242, hf⟩ := obind hf
  refine g_callV (gs' := [TB cy h0 h1 h2 h3 v0, SU cy h2 h4 v1, SC h3 q242.1, TA g0 q242.2]) (rest := []) X dX4_foresee_12 (c_X4_foreseeWith l D cy ad h0 h1 h2 h3 h4 g0 v0 v1 v2 w0 p1 p2 v0.2.2.1 v0.2.2.2.1 hq242) mf_X4_foreseeWith mv_X4_foreseeWith lkm_X4_109 ⟨(Nat.le_of_ble_eq_true rfl), (Nat.le_of_ble_eq_true rfl), (Nat.le_of_ble_eq_true rfl), (Nat.le_of_ble_eq_true rfl)⟩ 0 0 rfl rfl rfl rfl [0, 1, 2, 3] _ (by decide : [0, 1, 2, 3].Perm (List.range 4)) rfl (by decide : [0, 1, 2, 3].Perm (List.range 4)) rfl (Nat.le_of_ble_eq_true rfl) rfl ?_
  have hf := Option.some.inj hf
  subst hf
  exact g_vret X hr dX4_foresee_15
